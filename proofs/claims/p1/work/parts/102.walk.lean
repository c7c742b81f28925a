set_option maxHeartbeats 4000000 in
set_option maxRecDepth 100000 in
theorem c_X11_school_1 (l : Launch) (D : va_G) (k : Nat → ClassId) (q_0 : Nat) (q_1 : Nat) (q_2 : Nat) (q_3 : Nat) (q_4 : Nat) (q_5 : Nat) (q_6 : Nat) (q_7 : Nat) (q_8 : Nat) (q_9 : Nat) (q_10 : Nat) (q_11 : Nat) (q_12 : Nat) (q_13 : Nat) (q_14 : Nat) (q_15 : Nat) (q_16 : Nat) (q_17 : Nat) (q_18 : Nat) (q_19 : Nat) (q_20 : Nat) (q_21 : Nat) (q_22 : Nat) (q_23 : Nat) (x_0 : Int32) (x_1 : Int32) (x_2 : Int32) : zMi l yX11_school cX11_school 1 (some .int) ({ frames := 1, cells := 0, slots := 0, locals := 21 }) D k [.ref q_0] [(q_0, .inr (11, [.ref q_1, .ref q_3, .ref q_4, .ref q_5, .ref q_6, .int x_0])), (q_1, .inr (3, [.ref q_2, .ref q_7, .ref q_8, .ref q_9, .ref q_10, .ref q_11])), (q_2, .inr (6, [.int x_1, .ref q_12, .ref q_13, .ref q_14, .ref q_15, .ref q_16, .int 0, .ref q_17, .int x_2, .ref q_18, .ref q_19, .ref q_20, .ref q_21, .ref q_22, .ref q_23]))] (fun r u => u.1 = 0 ∧ r = 0) (fun u => []) := by
  refine zMi_of (own := RX11) (by decide +kernel) rfl (Nat.le_of_ble_eq_true rfl) ?_
  intro p e s m args below meth c A ls C0 hr hlk hin hP hD hS hA hK hN hl
  have hx := C0.1
  have hb := C0.2.1
  have hml := C0.2.2.1
  have hown := C0.2.2.2.1
  have hts := C0.2.2.2.2
  have hl : lv_has ls 1 [(0, .ref q_0)] := hl
  have hP : va_P D vwCl [(q_0, .inr (11, [.ref q_1, .ref q_3, .ref q_4, .ref q_5, .ref q_6, .int x_0])), (q_1, .inr (3, [.ref q_2, .ref q_7, .ref q_8, .ref q_9, .ref q_10, .ref q_11])), (q_2, .inr (6, [.int x_1, .ref q_12, .ref q_13, .ref q_14, .ref q_15, .ref q_16, .int 0, .ref q_17, .int x_2, .ref q_18, .ref q_19, .ref q_20, .ref q_21, .ref q_22, .ref q_23]))] s.heap := hP
  refine lv_aload_n hx hb dX11_school_0 rfl (lv_at hl 0 rfl) ?_
  refine va_get (D := D) (ci := 11) (v := .ref q_1) (C := RX11) (T := TX11) (N := 6) hx hb hts inX11 hown hK hP 0 rfl rfl 0 (by decide) (hts _ kF_X11_12) (fun _ h9 => h9) rfl dX11_school_1 ?_
  refine va_get (D := D) (ci := 3) (v := .ref q_2) (C := RX3) (T := TX3) (N := 6) hx hb hts inX3 hown hK hP 1 rfl rfl 0 (by decide) (hts _ kF_X11_43) (fun _ h9 => h9) rfl dX11_school_4 ?_
  refine va_get (D := D) (ci := 6) (v := .int 0) (C := RX6) (T := TX6) (N := 15) hx hb hts inX6 hown hK hP 2 rfl rfl 6 (by decide) (hts _ kF_X11_69) (fun _ h9 => h9) rfl dX11_school_7 ?_
  refine lv_iconst (v := 5) hx hb dX11_school_10 (by decide) ?_
  refine lv_icmp_lt (tgt := 21) hx hb dX11_school_11 (by decide) (fun _ => ?_) (fun c1 => absurd (by decide) c1)
  refine lv_aload_n hx hb dX11_school_21 rfl (lv_at hl 0 rfl) ?_
  refine va_get (D := D) (ci := 11) (v := .ref q_1) (C := RX11) (T := TX11) (N := 6) hx hb hts inX11 hown hK hP 0 rfl rfl 0 (by decide) (hts _ kF_X11_12) (fun _ h9 => h9) rfl dX11_school_22 ?_
  refine va_get (D := D) (ci := 3) (v := .ref q_2) (C := RX3) (T := TX3) (N := 6) hx hb hts inX3 hown hK hP 1 rfl rfl 0 (by decide) (hts _ kF_X11_43) (fun _ h9 => h9) rfl dX11_school_25 ?_
  refine lv_dup hx hb dX11_school_28 rfl ?_
  refine va_get (D := D) (ci := 6) (v := .int 0) (C := RX6) (T := TX6) (N := 15) hx hb hts inX6 hown hK hP 2 rfl rfl 6 (by decide) (hts _ kF_X11_69) (fun _ h9 => h9) rfl dX11_school_29 ?_
  refine lv_iconst (v := 1) hx hb dX11_school_32 (by decide) ?_
  refine lv_iadd hx hb dX11_school_33 ?_
  refine lv_toc (v := 1) (by decide) ?_
  refine va_put (D := D) (ci := 6) (v := .int 1) (ty := .int) (C := RX6) (T := TX6) (N := 15) hx hb hts inX6 tyX6 tyX6_ok nmX6 hown hK hP hD hS 2 rfl rfl 6 (by decide) (hts _ kF_X11_69) (fun _ h9 => h9) rfl (by decide +kernel) rfl rfl (Nat.le_of_ble_eq_true rfl) dX11_school_34 (fun H locs hP hD hS => ?_)
  have hP : va_P D vwCl [(q_0, .inr (11, [.ref q_1, .ref q_3, .ref q_4, .ref q_5, .ref q_6, .int x_0])), (q_1, .inr (3, [.ref q_2, .ref q_7, .ref q_8, .ref q_9, .ref q_10, .ref q_11])), (q_2, .inr (6, [.int x_1, .ref q_12, .ref q_13, .ref q_14, .ref q_15, .ref q_16, .int 1, .ref q_17, .int x_2, .ref q_18, .ref q_19, .ref q_20, .ref q_21, .ref q_22, .ref q_23]))] H := hP
  have hD : va_D A [(q_0, .inr (11, [.ref q_1, .ref q_3, .ref q_4, .ref q_5, .ref q_6, .int x_0])), (q_1, .inr (3, [.ref q_2, .ref q_7, .ref q_8, .ref q_9, .ref q_10, .ref q_11])), (q_2, .inr (6, [.int x_1, .ref q_12, .ref q_13, .ref q_14, .ref q_15, .ref q_16, .int 1, .ref q_17, .int x_2, .ref q_18, .ref q_19, .ref q_20, .ref q_21, .ref q_22, .ref q_23]))] := hD
  refine lv_aload_n hx hb dX11_school_37 rfl (lv_at hl 0 rfl) ?_
  refine lv_aload_n hx hb dX11_school_38 rfl (lv_at hl 0 rfl) ?_
  refine va_get (D := D) (ci := 11) (v := .ref q_1) (C := RX11) (T := TX11) (N := 6) hx hb hts inX11 hown hK hP 0 rfl rfl 0 (by decide) (hts _ kF_X11_12) (fun _ h9 => h9) rfl dX11_school_39 ?_
  refine va_get (D := D) (ci := 3) (v := .ref q_2) (C := RX3) (T := TX3) (N := 6) hx hb hts inX3 hown hK hP 1 rfl rfl 0 (by decide) (hts _ kF_X11_43) (fun _ h9 => h9) rfl dX11_school_42 ?_
  refine va_get (D := D) (ci := 6) (v := .int 1) (C := RX6) (T := TX6) (N := 15) hx hb hts inX6 hown hK hP 2 rfl rfl 6 (by decide) (hts _ kF_X11_69) (fun _ h9 => h9) rfl dX11_school_45 ?_
  refine lv_iconst (v := 1) hx hb dX11_school_48 (by decide) ?_
  refine lv_isub hx hb dX11_school_49 ?_
  refine lv_toc (v := 0) (by decide) ?_
  refine z_bi (wr := [(q_1, .inr (3, [.ref q_2, .ref q_7, .ref q_8, .ref q_9, .ref q_10, .ref q_11])), (q_2, .inr (6, [.int x_1, .ref q_12, .ref q_13, .ref q_14, .ref q_15, .ref q_16, .int 1, .ref q_17, .int x_2, .ref q_18, .ref q_19, .ref q_20, .ref q_21, .ref q_22, .ref q_23]))]) (z_runV (C := RX11) (As := [.int 0]) (rest := []) C0 (c_X11_answer_2 l D k q_0 q_1 q_3 q_4 q_5 q_6 x_0 _) okV_X11_answer kM_X11_55 rfl (z_pV (q0 := 0) hK hN hP hD [0] rfl rfl rfl rfl rfl) rfl hl.1 rfl (Nat.le_of_ble_eq_true rfl) dX11_school_50 rfl) hP hD hS hA [0] [1, 2] rfl rfl rfl rfl (fun r2 u2 H locs hw2 hP hD hS => ?_)
  obtain ⟨i2, a2⟩ := u2
  dsimp only at hw2
  obtain ⟨rfl, rfl⟩ := hw2
  have hP : va_P D vwCl [(q_1, .inr (3, [.ref q_2, .ref q_7, .ref q_8, .ref q_9, .ref q_10, .ref q_11])), (q_2, .inr (6, [.int x_1, .ref q_12, .ref q_13, .ref q_14, .ref q_15, .ref q_16, .int 1, .ref q_17, .int x_2, .ref q_18, .ref q_19, .ref q_20, .ref q_21, .ref q_22, .ref q_23])), (q_0, .inr (11, [.ref q_1, .ref q_3, .ref q_4, .ref q_5, .ref q_6, .int 0]))] H := hP
  have hD : va_D A [(q_1, .inr (3, [.ref q_2, .ref q_7, .ref q_8, .ref q_9, .ref q_10, .ref q_11])), (q_2, .inr (6, [.int x_1, .ref q_12, .ref q_13, .ref q_14, .ref q_15, .ref q_16, .int 1, .ref q_17, .int x_2, .ref q_18, .ref q_19, .ref q_20, .ref q_21, .ref q_22, .ref q_23])), (q_0, .inr (11, [.ref q_1, .ref q_3, .ref q_4, .ref q_5, .ref q_6, .int 0]))] := hD
  exact z_iret C0 hr hlk rfl hK hP hD hS (0, fun _ => 0) ⟨rfl, rfl⟩ [] rfl rfl rfl dX11_school_53

set_option maxHeartbeats 4000000 in
set_option maxRecDepth 100000 in
theorem c_X12_school_1 (l : Launch) (D : va_G) (k : Nat → ClassId) (q_0 : Nat) (q_1 : Nat) (q_2 : Nat) (q_3 : Nat) (q_4 : Nat) (q_5 : Nat) (q_6 : Nat) (q_7 : Nat) (q_8 : Nat) (q_9 : Nat) (q_10 : Nat) (q_11 : Nat) (q_12 : Nat) (q_13 : Nat) (q_14 : Nat) (q_15 : Nat) (q_16 : Nat) (q_17 : Nat) (q_18 : Nat) (q_19 : Nat) (q_20 : Nat) (q_21 : Nat) (q_22 : Nat) (q_23 : Nat) (q_24 : Nat) (q_25 : Nat) (x_0 : Int32) (x_1 : Int32) (x_2 : Int32) (x_3 : Int32) (x_4 : Int32) (x_5 : Int32) (x_6 : Int32) (g_7 : Int64) (x_8 : Int32) (x_9 : Int32) (x_10 : Int32) (x_11 : Int32) (x_12 : Int32) (x_13 : Int32) (x_14 : Int32) (x_15 : Int32) (g_16 : Int64) (g_17 : Int64) (x_18 : Int32) (x_19 : Int32) (x_20 : Int32) (x_21 : Int32) (x_22 : Int32) (x_23 : Int32) (x_24 : Int32) (x_25 : Int32) (x_26 : Int32) (x_27 : Int32) (x_28 : Int32) (x_29 : Int32) (x_30 : Int32) : zMi l yX12_school cX12_school 1 (some .int) ({ frames := 1, cells := 0, slots := 0, locals := 21 }) D k [.ref q_0] [(q_0, .inr (12, [.int x_0, .int x_1, .ref q_1, .ref q_2, .ref q_3, .int x_2, .ref q_4, .ref q_5, .ref q_6, .ref q_7, .ref q_8, .int x_3, .int x_4, .int x_5, .int x_6, .long g_7, .int x_8, .int x_9, .int x_10, .ref q_9, .int x_11, .ref q_10, .ref q_11, .int x_12, .ref q_12, .ref q_13, .int x_13, .int x_14, .ref q_14, .ref q_15, .ref q_16, .ref q_17, .int x_15, .long g_16, .long g_17, .int x_18, .int x_19, .int x_20, .int x_21, .ref q_18, .ref q_19, .int x_22, .int x_23, .int x_24, .int x_25, .ref q_20, .ref q_21, .int x_26, .int x_27, .ref q_22, .ref q_23, .ref q_24, .ref q_25, .int x_28, .int x_29, .int x_30])), (q_1, .inl (k 0, 27101, .inl (fun _ => 0)))] (fun r u => u.1 = 0 ∧ r = 0) (fun u => []) := by
  refine zMi_of (own := RX12) (by decide +kernel) rfl (Nat.le_of_ble_eq_true rfl) ?_
  intro p e s m args below meth c A ls C0 hr hlk hin hP hD hS hA hK hN hl
  have hx := C0.1
  have hb := C0.2.1
  have hml := C0.2.2.1
  have hown := C0.2.2.2.1
  have hts := C0.2.2.2.2
  have hl : lv_has ls 1 [(0, .ref q_0)] := hl
  have hP : va_P D vwCl [(q_0, .inr (12, [.int x_0, .int x_1, .ref q_1, .ref q_2, .ref q_3, .int x_2, .ref q_4, .ref q_5, .ref q_6, .ref q_7, .ref q_8, .int x_3, .int x_4, .int x_5, .int x_6, .long g_7, .int x_8, .int x_9, .int x_10, .ref q_9, .int x_11, .ref q_10, .ref q_11, .int x_12, .ref q_12, .ref q_13, .int x_13, .int x_14, .ref q_14, .ref q_15, .ref q_16, .ref q_17, .int x_15, .long g_16, .long g_17, .int x_18, .int x_19, .int x_20, .int x_21, .ref q_18, .ref q_19, .int x_22, .int x_23, .int x_24, .int x_25, .ref q_20, .ref q_21, .int x_26, .int x_27, .ref q_22, .ref q_23, .ref q_24, .ref q_25, .int x_28, .int x_29, .int x_30])), (q_1, .inl (k 0, 27101, .inl (fun _ => 0)))] s.heap := hP
  refine lv_aload_n hx hb dX12_school_0 rfl (lv_at hl 0 rfl) ?_
  refine lv_iconst (v := 0) hx hb dX12_school_1 (by decide) ?_
  refine va_put (D := D) (ci := 12) (v := .int 0) (ty := .int) (C := RX12) (T := TX12) (N := 56) hx hb hts inX12 tyX12 tyX12_ok nmX12 hown hK hP hD hS 0 rfl rfl 0 (by decide) (hts _ kF_X12_92) (fun _ h9 => h9) rfl (by decide +kernel) rfl rfl (Nat.le_of_ble_eq_true rfl) dX12_school_2 (fun H locs hP hD hS => ?_)
  have hP : va_P D vwCl [(q_0, .inr (12, [.int 0, .int x_1, .ref q_1, .ref q_2, .ref q_3, .int x_2, .ref q_4, .ref q_5, .ref q_6, .ref q_7, .ref q_8, .int x_3, .int x_4, .int x_5, .int x_6, .long g_7, .int x_8, .int x_9, .int x_10, .ref q_9, .int x_11, .ref q_10, .ref q_11, .int x_12, .ref q_12, .ref q_13, .int x_13, .int x_14, .ref q_14, .ref q_15, .ref q_16, .ref q_17, .int x_15, .long g_16, .long g_17, .int x_18, .int x_19, .int x_20, .int x_21, .ref q_18, .ref q_19, .int x_22, .int x_23, .int x_24, .int x_25, .ref q_20, .ref q_21, .int x_26, .int x_27, .ref q_22, .ref q_23, .ref q_24, .ref q_25, .int x_28, .int x_29, .int x_30])), (q_1, .inl (k 0, 27101, .inl (fun _ => 0)))] H := hP
  have hD : va_D A [(q_0, .inr (12, [.int 0, .int x_1, .ref q_1, .ref q_2, .ref q_3, .int x_2, .ref q_4, .ref q_5, .ref q_6, .ref q_7, .ref q_8, .int x_3, .int x_4, .int x_5, .int x_6, .long g_7, .int x_8, .int x_9, .int x_10, .ref q_9, .int x_11, .ref q_10, .ref q_11, .int x_12, .ref q_12, .ref q_13, .int x_13, .int x_14, .ref q_14, .ref q_15, .ref q_16, .ref q_17, .int x_15, .long g_16, .long g_17, .int x_18, .int x_19, .int x_20, .int x_21, .ref q_18, .ref q_19, .int x_22, .int x_23, .int x_24, .int x_25, .ref q_20, .ref q_21, .int x_26, .int x_27, .ref q_22, .ref q_23, .ref q_24, .ref q_25, .int x_28, .int x_29, .int x_30])), (q_1, .inl (k 0, 27101, .inl (fun _ => 0)))] := hD
  refine lv_aload_n hx hb dX12_school_5 rfl (lv_at hl 0 rfl) ?_
  refine va_get (D := D) (ci := 12) (v := .ref q_1) (C := RX12) (T := TX12) (N := 56) hx hb hts inX12 hown hK hP 0 rfl rfl 2 (by decide) (hts _ kF_X12_7) (fun _ h9 => h9) rfl dX12_school_6 ?_
  refine lv_iconst (v := 1) hx hb dX12_school_9 (by decide) ?_
  refine va_iald hx hb hK hP 1 0 rfl rfl (by unfold vp_in; decide) dX12_school_10 ?_
  refine lv_toc (v := 0) rfl ?_
  refine lv_iconst (v := 5) hx hb dX12_school_11 (by decide) ?_
  refine lv_icmp_ne (tgt := 22) hx hb dX12_school_12 (by decide) (fun _ => ?_) (fun c1 => absurd c1 (by decide))
  refine lv_aload_n hx hb dX12_school_22 rfl (lv_at hl 0 rfl) ?_
  refine va_get (D := D) (ci := 12) (v := .ref q_1) (C := RX12) (T := TX12) (N := 56) hx hb hts inX12 hown hK hP 0 rfl rfl 2 (by decide) (hts _ kF_X12_7) (fun _ h9 => h9) rfl dX12_school_23 ?_
  refine lv_iconst (v := 1) hx hb dX12_school_26 (by decide) ?_
  refine lv_dup2_11 hx hb dX12_school_27 rfl rfl ?_
  refine va_iald hx hb hK hP 1 0 rfl rfl (by unfold vp_in; decide) dX12_school_28 ?_
  refine lv_toc (v := 0) rfl ?_
  refine lv_iconst (v := 1) hx hb dX12_school_29 (by decide) ?_
  refine lv_iadd hx hb dX12_school_30 ?_
  refine lv_toc (v := 1) (by decide) ?_
  refine va_iast hx hb hK hP hD hS 1 0 rfl rfl (by unfold vp_in; decide) dX12_school_31 (fun H locs hP hD hS => ?_)
  have hP : va_P D vwCl [(q_0, .inr (12, [.int 0, .int x_1, .ref q_1, .ref q_2, .ref q_3, .int x_2, .ref q_4, .ref q_5, .ref q_6, .ref q_7, .ref q_8, .int x_3, .int x_4, .int x_5, .int x_6, .long g_7, .int x_8, .int x_9, .int x_10, .ref q_9, .int x_11, .ref q_10, .ref q_11, .int x_12, .ref q_12, .ref q_13, .int x_13, .int x_14, .ref q_14, .ref q_15, .ref q_16, .ref q_17, .int x_15, .long g_16, .long g_17, .int x_18, .int x_19, .int x_20, .int x_21, .ref q_18, .ref q_19, .int x_22, .int x_23, .int x_24, .int x_25, .ref q_20, .ref q_21, .int x_26, .int x_27, .ref q_22, .ref q_23, .ref q_24, .ref q_25, .int x_28, .int x_29, .int x_30])), (q_1, .inl (k 0, 27101, .inl (upd (fun _ => 0) 1 1)))] H := hP
  have hD : va_D A [(q_0, .inr (12, [.int 0, .int x_1, .ref q_1, .ref q_2, .ref q_3, .int x_2, .ref q_4, .ref q_5, .ref q_6, .ref q_7, .ref q_8, .int x_3, .int x_4, .int x_5, .int x_6, .long g_7, .int x_8, .int x_9, .int x_10, .ref q_9, .int x_11, .ref q_10, .ref q_11, .int x_12, .ref q_12, .ref q_13, .int x_13, .int x_14, .ref q_14, .ref q_15, .ref q_16, .ref q_17, .int x_15, .long g_16, .long g_17, .int x_18, .int x_19, .int x_20, .int x_21, .ref q_18, .ref q_19, .int x_22, .int x_23, .int x_24, .int x_25, .ref q_20, .ref q_21, .int x_26, .int x_27, .ref q_22, .ref q_23, .ref q_24, .ref q_25, .int x_28, .int x_29, .int x_30])), (q_1, .inl (k 0, 27101, .inl (upd (fun _ => 0) 1 1)))] := hD
  refine lv_aload_n hx hb dX12_school_32 rfl (lv_at hl 0 rfl) ?_
  refine lv_aload_n hx hb dX12_school_33 rfl (lv_at hl 0 rfl) ?_
  refine va_get (D := D) (ci := 12) (v := .ref q_1) (C := RX12) (T := TX12) (N := 56) hx hb hts inX12 hown hK hP 0 rfl rfl 2 (by decide) (hts _ kF_X12_7) (fun _ h9 => h9) rfl dX12_school_34 ?_
  refine lv_iconst (v := 1) hx hb dX12_school_37 (by decide) ?_
  refine va_iald hx hb hK hP 1 0 rfl rfl (by unfold vp_in; decide) dX12_school_38 ?_
  refine lv_toc (v := 1) rfl ?_
  refine lv_iconst (v := 1) hx hb dX12_school_39 (by decide) ?_
  refine lv_isub hx hb dX12_school_40 ?_
  refine lv_toc (v := 0) (by decide) ?_
  refine z_bi (wr := [(q_1, .inl (k 0, 27101, .inl (upd (fun _ => 0) 1 1)))]) (z_runV (C := RX12) (As := [.int 0]) (rest := []) C0 (c_X12_told_2 l D k q_0 q_1 q_2 q_3 q_4 q_5 q_6 q_7 q_8 q_9 q_10 q_11 q_12 q_13 q_14 q_15 q_16 q_17 q_18 q_19 q_20 q_21 q_22 q_23 q_24 q_25 0 x_1 x_2 x_3 x_4 x_5 x_6 g_7 x_8 x_9 x_10 x_11 x_12 x_13 x_14 x_15 g_16 g_17 x_18 x_19 x_20 x_21 x_22 x_23 x_24 x_25 x_26 x_27 x_28 x_29 x_30 _) okV_X12_told kM_X12_106 rfl (z_pV (q0 := 0) hK hN hP hD [0] rfl rfl rfl rfl rfl) rfl hl.1 rfl (Nat.le_of_ble_eq_true rfl) dX12_school_41 rfl) hP hD hS hA [0] [1] rfl rfl rfl rfl (fun r2 u2 H locs hw2 hP hD hS => ?_)
  obtain ⟨i2, a2⟩ := u2
  dsimp only at hw2
  obtain ⟨rfl, rfl⟩ := hw2
  have hP : va_P D vwCl [(q_1, .inl (k 0, 27101, .inl (upd (fun _ => 0) 1 1))), (q_0, .inr (12, [.int 0, .int 0, .ref q_1, .ref q_2, .ref q_3, .int x_2, .ref q_4, .ref q_5, .ref q_6, .ref q_7, .ref q_8, .int x_3, .int x_4, .int x_5, .int x_6, .long g_7, .int x_8, .int x_9, .int x_10, .ref q_9, .int x_11, .ref q_10, .ref q_11, .int x_12, .ref q_12, .ref q_13, .int x_13, .int x_14, .ref q_14, .ref q_15, .ref q_16, .ref q_17, .int x_15, .long g_16, .long g_17, .int x_18, .int x_19, .int x_20, .int x_21, .ref q_18, .ref q_19, .int x_22, .int x_23, .int x_24, .int x_25, .ref q_20, .ref q_21, .int x_26, .int x_27, .ref q_22, .ref q_23, .ref q_24, .ref q_25, .int x_28, .int x_29, .int x_30]))] H := hP
  have hD : va_D A [(q_1, .inl (k 0, 27101, .inl (upd (fun _ => 0) 1 1))), (q_0, .inr (12, [.int 0, .int 0, .ref q_1, .ref q_2, .ref q_3, .int x_2, .ref q_4, .ref q_5, .ref q_6, .ref q_7, .ref q_8, .int x_3, .int x_4, .int x_5, .int x_6, .long g_7, .int x_8, .int x_9, .int x_10, .ref q_9, .int x_11, .ref q_10, .ref q_11, .int x_12, .ref q_12, .ref q_13, .int x_13, .int x_14, .ref q_14, .ref q_15, .ref q_16, .ref q_17, .int x_15, .long g_16, .long g_17, .int x_18, .int x_19, .int x_20, .int x_21, .ref q_18, .ref q_19, .int x_22, .int x_23, .int x_24, .int x_25, .ref q_20, .ref q_21, .int x_26, .int x_27, .ref q_22, .ref q_23, .ref q_24, .ref q_25, .int x_28, .int x_29, .int x_30]))] := hD
  exact z_iret C0 hr hlk rfl hK hP hD hS (0, fun _ => 0) ⟨rfl, rfl⟩ [] rfl rfl rfl dX12_school_44

set_option maxHeartbeats 4000000 in
set_option maxRecDepth 100000 in
theorem c_X11_isNoDay_1 (l : Launch) (D : va_G) (k : Nat → ClassId) (x_0 : Int32) : zMi l yX11_isNoDay cX11_isNoDay 1 (some .boolean) ({ frames := 0, cells := 0, slots := 0, locals := 0 }) D k [.int x_0] [] (fun r u => (u.1 = 0 ∧ r = 1 ∧ ((x_0 < 0) ∨ (¬ x_0 < 0 ∧ ¬ x_0 < 400))) ∨ (u.1 = 1 ∧ r = 0 ∧ ((¬ x_0 < 0 ∧ x_0 < 400)))) (fun u => []) := by
  refine zMi_of (own := RX11) (by decide +kernel) rfl (Nat.le_of_ble_eq_true rfl) ?_
  intro p e s m args below meth c A ls C0 hr hlk hin hP hD hS hA hK hN hl
  have hx := C0.1
  have hb := C0.2.1
  have hml := C0.2.2.1
  have hown := C0.2.2.2.1
  have hts := C0.2.2.2.2
  have hl : lv_has ls 1 [(0, .int x_0)] := hl
  have hP : va_P D vwCl [] s.heap := hP
  refine lv_iload_n hx hb dX11_isNoDay_0 rfl (lv_at hl 0 rfl) ?_
  refine lv_if_lt (tgt := 11) hx hb dX11_isNoDay_1 (by decide) (fun c1 => ?_) (fun c1 => ?_)
  · refine lv_iconst (v := 1) hx hb dX11_isNoDay_11 (by decide) ?_
    refine lv_goto (tgt := 16) hx hb dX11_isNoDay_12 (by decide) ?_
    exact z_iret C0 hr hlk rfl hK hP hD hS (0, fun _ => 0) (Or.inl ⟨rfl, rfl, (Or.inl c1)⟩) [] rfl rfl rfl dX11_isNoDay_16
  · refine lv_iload_n hx hb dX11_isNoDay_4 rfl (lv_at hl 0 rfl) ?_
    refine lv_sipush (v := 400) hx hb dX11_isNoDay_5 (by decide) ?_
    refine lv_icmp_lt (tgt := 15) hx hb dX11_isNoDay_8 (by decide) (fun c2 => ?_) (fun c2 => ?_)
    · refine lv_iconst (v := 0) hx hb dX11_isNoDay_15 (by decide) ?_
      exact z_iret C0 hr hlk rfl hK hP hD hS (1, fun _ => 0) (Or.inr (⟨rfl, rfl, ⟨c1, c2⟩⟩)) [] rfl rfl rfl dX11_isNoDay_16
    · refine lv_iconst (v := 1) hx hb dX11_isNoDay_11 (by decide) ?_
      refine lv_goto (tgt := 16) hx hb dX11_isNoDay_12 (by decide) ?_
      exact z_iret C0 hr hlk rfl hK hP hD hS (0, fun _ => 0) (Or.inl ⟨rfl, rfl, (Or.inr (⟨c1, c2⟩))⟩) [] rfl rfl rfl dX11_isNoDay_16

set_option maxHeartbeats 4000000 in
set_option maxRecDepth 100000 in
theorem c_X6_isNoSchool_1 (l : Launch) (D : va_G) (k : Nat → ClassId) (q_0 : Nat) (q_1 : Nat) (q_2 : Nat) (q_3 : Nat) (q_4 : Nat) (q_5 : Nat) (q_6 : Nat) (q_7 : Nat) (q_8 : Nat) (q_9 : Nat) (q_10 : Nat) (q_11 : Nat) (q_12 : Nat) (x_0 : Int32) (x_1 : Int32) (x_2 : Int32) : zMi l yX6_isNoSchool cX6_isNoSchool 2 (some .boolean) ({ frames := 0, cells := 0, slots := 0, locals := 0 }) D k [.ref q_0, .int x_0] [(q_0, .inr (6, [.int x_1, .ref q_1, .ref q_2, .ref q_3, .ref q_4, .ref q_5, .int 0, .ref q_6, .int x_2, .ref q_7, .ref q_8, .ref q_9, .ref q_10, .ref q_11, .ref q_12]))] (fun r u => u.1 = 0 ∧ r = 1) (fun u => [(q_0, .inr (6, [.int x_1, .ref q_1, .ref q_2, .ref q_3, .ref q_4, .ref q_5, .int 0, .ref q_6, .int x_2, .ref q_7, .ref q_8, .ref q_9, .ref q_10, .ref q_11, .ref q_12]))]) := by
  refine zMi_of (own := RX6) (by decide +kernel) rfl (Nat.le_of_ble_eq_true rfl) ?_
  intro p e s m args below meth c A ls C0 hr hlk hin hP hD hS hA hK hN hl
  have hx := C0.1
  have hb := C0.2.1
  have hml := C0.2.2.1
  have hown := C0.2.2.2.1
  have hts := C0.2.2.2.2
  have hl : lv_has ls 2 [(0, .ref q_0), (1, .int x_0)] := hl
  have hP : va_P D vwCl [(q_0, .inr (6, [.int x_1, .ref q_1, .ref q_2, .ref q_3, .ref q_4, .ref q_5, .int 0, .ref q_6, .int x_2, .ref q_7, .ref q_8, .ref q_9, .ref q_10, .ref q_11, .ref q_12]))] s.heap := hP
  refine lv_iload_n hx hb dX6_isNoSchool_0 rfl (lv_at hl 1 rfl) ?_
  refine lv_if_lt (tgt := 12) hx hb dX6_isNoSchool_1 (by decide) (fun c1 => ?_) (fun c1 => ?_)
  · refine lv_iconst (v := 1) hx hb dX6_isNoSchool_12 (by decide) ?_
    refine lv_goto (tgt := 17) hx hb dX6_isNoSchool_13 (by decide) ?_
    exact z_iret C0 hr hlk rfl hK hP hD hS (0, fun _ => 0) ⟨rfl, rfl⟩ [0] rfl rfl rfl dX6_isNoSchool_17
  · refine lv_iload_n hx hb dX6_isNoSchool_4 rfl (lv_at hl 1 rfl) ?_
    refine lv_aload_n hx hb dX6_isNoSchool_5 rfl (lv_at hl 0 rfl) ?_
    refine va_get (D := D) (ci := 6) (v := .int 0) (C := RX6) (T := TX6) (N := 15) hx hb hts inX6 hown hK hP 0 rfl rfl 6 (by decide) (hts _ kF_X6_52) (fun _ h9 => h9) rfl dX6_isNoSchool_6 ?_
    refine lv_icmp_lt (tgt := 16) hx hb dX6_isNoSchool_9 (by decide) (fun c2 => ?_) (fun c2 => ?_)
    · exact (show False by have bA0 := Int32.le_toInt x_0; have bB0 := Int32.toInt_lt x_0; revert c1 c2; simp only [vp_in_iff, Int32.lt_iff_toInt_lt, Int32.le_iff_toInt_le, Int64.lt_iff_toInt_lt, Int64.le_iff_toInt_le, Int32.toInt_toInt64, ← Int32.toInt_inj, ← Int64.toInt_inj, Int32.reduceToInt, Int64.reduceToInt] <;> omega).elim
    · refine lv_iconst (v := 1) hx hb dX6_isNoSchool_12 (by decide) ?_
      refine lv_goto (tgt := 17) hx hb dX6_isNoSchool_13 (by decide) ?_
      exact z_iret C0 hr hlk rfl hK hP hD hS (0, fun _ => 0) ⟨rfl, rfl⟩ [0] rfl rfl rfl dX6_isNoSchool_17

set_option maxHeartbeats 4000000 in
set_option maxRecDepth 100000 in
theorem c_X11_answer_3 (l : Launch) (D : va_G) (k : Nat → ClassId) (q_0 : Nat) (q_1 : Nat) (q_2 : Nat) (q_3 : Nat) (q_4 : Nat) (q_5 : Nat) (x_0 : Int32) : zMi l yX11_answer cX11_answer 2 (some .int) ({ frames := 0, cells := 0, slots := 0, locals := 0 }) D k [.ref q_0, .int (-2)] [(q_0, .inr (11, [.ref q_1, .ref q_2, .ref q_3, .ref q_4, .ref q_5, .int x_0]))] (fun r u => u.1 = 0 ∧ r = (-2)) (fun u => [(q_0, .inr (11, [.ref q_1, .ref q_2, .ref q_3, .ref q_4, .ref q_5, .int (-2)]))]) := by
  refine zMi_of (own := RX11) (by decide +kernel) rfl (Nat.le_of_ble_eq_true rfl) ?_
  intro p e s m args below meth c A ls C0 hr hlk hin hP hD hS hA hK hN hl
  have hx := C0.1
  have hb := C0.2.1
  have hml := C0.2.2.1
  have hown := C0.2.2.2.1
  have hts := C0.2.2.2.2
  have hl : lv_has ls 2 [(0, .ref q_0), (1, .int (-2))] := hl
  have hP : va_P D vwCl [(q_0, .inr (11, [.ref q_1, .ref q_2, .ref q_3, .ref q_4, .ref q_5, .int x_0]))] s.heap := hP
  refine lv_aload_n hx hb dX11_answer_0 rfl (lv_at hl 0 rfl) ?_
  refine lv_iload_n hx hb dX11_answer_1 rfl (lv_at hl 1 rfl) ?_
  refine lv_if_ge (tgt := 9) hx hb dX11_answer_2 (by decide) (fun c1 => absurd c1 (by decide)) (fun _ => ?_)
  refine lv_iload_n hx hb dX11_answer_5 rfl (lv_at hl 1 rfl) ?_
  refine lv_goto (tgt := 10) hx hb dX11_answer_6 (by decide) ?_
  refine va_put (D := D) (ci := 11) (v := .int (-2)) (ty := .int) (C := RX11) (T := TX11) (N := 6) hx hb hts inX11 tyX11 tyX11_ok nmX11 hown hK hP hD hS 0 rfl rfl 5 (by decide) (hts _ kF_X11_383) (fun _ h9 => h9) rfl (by decide +kernel) rfl rfl (Nat.le_of_ble_eq_true rfl) dX11_answer_10 (fun H locs hP hD hS => ?_)
  have hP : va_P D vwCl [(q_0, .inr (11, [.ref q_1, .ref q_2, .ref q_3, .ref q_4, .ref q_5, .int (-2)]))] H := hP
  have hD : va_D A [(q_0, .inr (11, [.ref q_1, .ref q_2, .ref q_3, .ref q_4, .ref q_5, .int (-2)]))] := hD
  refine lv_iload_n hx hb dX11_answer_13 rfl (lv_at hl 1 rfl) ?_
  exact z_iret C0 hr hlk rfl hK hP hD hS (0, fun _ => 0) ⟨rfl, rfl⟩ [0] rfl rfl rfl dX11_answer_14

set_option maxHeartbeats 4000000 in
set_option maxRecDepth 100000 in
theorem c_X11_shut_1 (l : Launch) (D : va_G) (k : Nat → ClassId) (q_0 : Nat) (q_1 : Nat) (q_2 : Nat) (q_3 : Nat) (q_4 : Nat) (q_5 : Nat) (q_6 : Nat) (q_7 : Nat) (q_8 : Nat) (q_9 : Nat) (q_10 : Nat) (q_11 : Nat) (q_12 : Nat) (q_13 : Nat) (q_14 : Nat) (q_15 : Nat) (q_16 : Nat) (q_17 : Nat) (q_18 : Nat) (q_19 : Nat) (q_20 : Nat) (q_21 : Nat) (q_22 : Nat) (q_23 : Nat) (x_0 : Int32) (x_1 : Int32) (x_2 : Int32) (x_3 : Int32) (x_4 : Int32) : zMi l yX11_shut cX11_shut 4 (some .int) ({ frames := 1, cells := 0, slots := 0, locals := 21 }) D k [.ref q_0, .int x_0, .int x_1] [(q_0, .inr (11, [.ref q_1, .ref q_3, .ref q_4, .ref q_5, .ref q_6, .int x_2])), (q_1, .inr (3, [.ref q_2, .ref q_7, .ref q_8, .ref q_9, .ref q_10, .ref q_11])), (q_2, .inr (6, [.int x_3, .ref q_12, .ref q_13, .ref q_14, .ref q_15, .ref q_16, .int 0, .ref q_17, .int x_4, .ref q_18, .ref q_19, .ref q_20, .ref q_21, .ref q_22, .ref q_23]))] (fun r u => (u.1 = 0 ∧ r = (-1) ∧ ((((x_1 < 0) ∨ (¬ x_1 < 0 ∧ ¬ x_1 < 400))))) ∨ (u.1 = 1 ∧ r = (-2) ∧ ((((¬ x_1 < 0 ∧ x_1 < 400)))))) (fun u => []) := by
  refine zMi_of (own := RX11) (by decide +kernel) rfl (Nat.le_of_ble_eq_true rfl) ?_
  intro p e s m args below meth c A ls C0 hr hlk hin hP hD hS hA hK hN hl
  have hx := C0.1
  have hb := C0.2.1
  have hml := C0.2.2.1
  have hown := C0.2.2.2.1
  have hts := C0.2.2.2.2
  have hl : lv_has ls 4 [(0, .ref q_0), (1, .int x_0), (2, .int x_1)] := hl
  have hP : va_P D vwCl [(q_0, .inr (11, [.ref q_1, .ref q_3, .ref q_4, .ref q_5, .ref q_6, .int x_2])), (q_1, .inr (3, [.ref q_2, .ref q_7, .ref q_8, .ref q_9, .ref q_10, .ref q_11])), (q_2, .inr (6, [.int x_3, .ref q_12, .ref q_13, .ref q_14, .ref q_15, .ref q_16, .int 0, .ref q_17, .int x_4, .ref q_18, .ref q_19, .ref q_20, .ref q_21, .ref q_22, .ref q_23]))] s.heap := hP
  refine lv_aload_n hx hb dX11_shut_0 rfl (lv_at hl 0 rfl) ?_
  refine va_get (D := D) (ci := 11) (v := .ref q_1) (C := RX11) (T := TX11) (N := 6) hx hb hts inX11 hown hK hP 0 rfl rfl 0 (by decide) (hts _ kF_X11_12) (fun _ h9 => h9) rfl dX11_shut_1 ?_
  refine va_get (D := D) (ci := 3) (v := .ref q_2) (C := RX3) (T := TX3) (N := 6) hx hb hts inX3 hown hK hP 1 rfl rfl 0 (by decide) (hts _ kF_X11_43) (fun _ h9 => h9) rfl dX11_shut_4 ?_
  refine lv_astore_n (lv' := [(3, .ref q_2), (0, .ref q_0), (1, .int x_0), (2, .int x_1)]) hx hb dX11_shut_7 rfl hl (by decide) rfl (fun ls hl => ?_)
  refine lv_iload_n hx hb dX11_shut_8 rfl (lv_at hl 3 rfl) ?_
  refine z_bi0 (z_runS (As := [.int x_1]) (rest := []) C0 (c_X11_isNoDay_1 l D k x_1 _) okS_X11_isNoDay kM_X11_72 rfl (z_p0 hK hN) rfl hl.1 rfl (Nat.le_of_ble_eq_true rfl) dX11_shut_9 rfl) hP hS hA (fun r1 u1 H locs hw1 hP hS => ?_)
  obtain ⟨i1, a1⟩ := u1
  dsimp only at hw1
  rcases hw1 with ⟨rfl, rfl, c1⟩ | ⟨rfl, rfl, c1⟩
  · refine lv_if_eq (tgt := 21) hx hb dX11_shut_12 (by decide) (fun c2 => absurd c2 (by decide)) (fun _ => ?_)
    refine lv_aload_n hx hb dX11_shut_15 rfl (lv_at hl 1 rfl) ?_
    refine lv_iconst (v := (-1)) hx hb dX11_shut_16 (by decide) ?_
    refine z_bi (wr := [(q_1, .inr (3, [.ref q_2, .ref q_7, .ref q_8, .ref q_9, .ref q_10, .ref q_11])), (q_2, .inr (6, [.int x_3, .ref q_12, .ref q_13, .ref q_14, .ref q_15, .ref q_16, .int 0, .ref q_17, .int x_4, .ref q_18, .ref q_19, .ref q_20, .ref q_21, .ref q_22, .ref q_23]))]) (z_runV (C := RX11) (As := [.int (-1)]) (rest := []) C0 (c_X11_answer_1 l D k q_0 q_1 q_3 q_4 q_5 q_6 x_2 _) okV_X11_answer kM_X11_55 rfl (z_pV (q0 := 0) hK hN hP hD [0] rfl rfl rfl rfl rfl) rfl hl.1 rfl (Nat.le_of_ble_eq_true rfl) dX11_shut_17 rfl) hP hD hS hA [0] [1, 2] rfl rfl rfl rfl (fun r3 u3 H locs hw3 hP hD hS => ?_)
    obtain ⟨i3, a3⟩ := u3
    dsimp only at hw3
    obtain ⟨rfl, rfl⟩ := hw3
    have hP : va_P D vwCl [(q_1, .inr (3, [.ref q_2, .ref q_7, .ref q_8, .ref q_9, .ref q_10, .ref q_11])), (q_2, .inr (6, [.int x_3, .ref q_12, .ref q_13, .ref q_14, .ref q_15, .ref q_16, .int 0, .ref q_17, .int x_4, .ref q_18, .ref q_19, .ref q_20, .ref q_21, .ref q_22, .ref q_23])), (q_0, .inr (11, [.ref q_1, .ref q_3, .ref q_4, .ref q_5, .ref q_6, .int (-1)]))] H := hP
    have hD : va_D A [(q_1, .inr (3, [.ref q_2, .ref q_7, .ref q_8, .ref q_9, .ref q_10, .ref q_11])), (q_2, .inr (6, [.int x_3, .ref q_12, .ref q_13, .ref q_14, .ref q_15, .ref q_16, .int 0, .ref q_17, .int x_4, .ref q_18, .ref q_19, .ref q_20, .ref q_21, .ref q_22, .ref q_23])), (q_0, .inr (11, [.ref q_1, .ref q_3, .ref q_4, .ref q_5, .ref q_6, .int (-1)]))] := hD
    exact z_iret C0 hr hlk rfl hK hP hD hS (0, fun _ => 0) (Or.inl ⟨rfl, rfl, c1⟩) [] rfl rfl rfl dX11_shut_20
  · refine lv_if_eq (tgt := 21) hx hb dX11_shut_12 (by decide) (fun _ => ?_) (fun c4 => absurd (by decide) c4)
    refine lv_aload_n hx hb dX11_shut_21 rfl (lv_at hl 0 rfl) ?_
    refine lv_iload_n hx hb dX11_shut_22 rfl (lv_at hl 2 rfl) ?_
    refine z_bi (wr := [(q_0, .inr (11, [.ref q_1, .ref q_3, .ref q_4, .ref q_5, .ref q_6, .int x_2])), (q_1, .inr (3, [.ref q_2, .ref q_7, .ref q_8, .ref q_9, .ref q_10, .ref q_11]))]) (z_runV (C := RX6) (As := [.int x_0]) (rest := []) C0 (c_X6_isNoSchool_1 l D k q_2 q_12 q_13 q_14 q_15 q_16 q_17 q_18 q_19 q_20 q_21 q_22 q_23 x_0 x_3 x_4 _) okV_X6_isNoSchool kM_X11_76 rfl (z_pV (q0 := 2) hK hN hP hD [2] rfl rfl rfl rfl rfl) rfl hl.1 rfl (Nat.le_of_ble_eq_true rfl) dX11_shut_23 rfl) hP hD hS hA [2] [0, 1] rfl rfl rfl rfl (fun r5 u5 H locs hw5 hP hD hS => ?_)
    obtain ⟨i5, a5⟩ := u5
    dsimp only at hw5
    obtain ⟨rfl, rfl⟩ := hw5
    have hP : va_P D vwCl [(q_0, .inr (11, [.ref q_1, .ref q_3, .ref q_4, .ref q_5, .ref q_6, .int x_2])), (q_1, .inr (3, [.ref q_2, .ref q_7, .ref q_8, .ref q_9, .ref q_10, .ref q_11])), (q_2, .inr (6, [.int x_3, .ref q_12, .ref q_13, .ref q_14, .ref q_15, .ref q_16, .int 0, .ref q_17, .int x_4, .ref q_18, .ref q_19, .ref q_20, .ref q_21, .ref q_22, .ref q_23]))] H := hP
    have hD : va_D A [(q_0, .inr (11, [.ref q_1, .ref q_3, .ref q_4, .ref q_5, .ref q_6, .int x_2])), (q_1, .inr (3, [.ref q_2, .ref q_7, .ref q_8, .ref q_9, .ref q_10, .ref q_11])), (q_2, .inr (6, [.int x_3, .ref q_12, .ref q_13, .ref q_14, .ref q_15, .ref q_16, .int 0, .ref q_17, .int x_4, .ref q_18, .ref q_19, .ref q_20, .ref q_21, .ref q_22, .ref q_23]))] := hD
    refine lv_if_eq (tgt := 36) hx hb dX11_shut_26 (by decide) (fun c6 => absurd c6 (by decide)) (fun _ => ?_)
    refine lv_aload_n hx hb dX11_shut_29 rfl (lv_at hl 1 rfl) ?_
    refine lv_bipush (v := (-2)) hx hb dX11_shut_30 (by decide) ?_
    refine z_bi (wr := [(q_1, .inr (3, [.ref q_2, .ref q_7, .ref q_8, .ref q_9, .ref q_10, .ref q_11])), (q_2, .inr (6, [.int x_3, .ref q_12, .ref q_13, .ref q_14, .ref q_15, .ref q_16, .int 0, .ref q_17, .int x_4, .ref q_18, .ref q_19, .ref q_20, .ref q_21, .ref q_22, .ref q_23]))]) (z_runV (C := RX11) (As := [.int (-2)]) (rest := []) C0 (c_X11_answer_3 l D k q_0 q_1 q_3 q_4 q_5 q_6 x_2 _) okV_X11_answer kM_X11_55 rfl (z_pV (q0 := 0) hK hN hP hD [0] rfl rfl rfl rfl rfl) rfl hl.1 rfl (Nat.le_of_ble_eq_true rfl) dX11_shut_32 rfl) hP hD hS hA [0] [1, 2] rfl rfl rfl rfl (fun r7 u7 H locs hw7 hP hD hS => ?_)
    obtain ⟨i7, a7⟩ := u7
    dsimp only at hw7
    obtain ⟨rfl, rfl⟩ := hw7
    have hP : va_P D vwCl [(q_1, .inr (3, [.ref q_2, .ref q_7, .ref q_8, .ref q_9, .ref q_10, .ref q_11])), (q_2, .inr (6, [.int x_3, .ref q_12, .ref q_13, .ref q_14, .ref q_15, .ref q_16, .int 0, .ref q_17, .int x_4, .ref q_18, .ref q_19, .ref q_20, .ref q_21, .ref q_22, .ref q_23])), (q_0, .inr (11, [.ref q_1, .ref q_3, .ref q_4, .ref q_5, .ref q_6, .int (-2)]))] H := hP
    have hD : va_D A [(q_1, .inr (3, [.ref q_2, .ref q_7, .ref q_8, .ref q_9, .ref q_10, .ref q_11])), (q_2, .inr (6, [.int x_3, .ref q_12, .ref q_13, .ref q_14, .ref q_15, .ref q_16, .int 0, .ref q_17, .int x_4, .ref q_18, .ref q_19, .ref q_20, .ref q_21, .ref q_22, .ref q_23])), (q_0, .inr (11, [.ref q_1, .ref q_3, .ref q_4, .ref q_5, .ref q_6, .int (-2)]))] := hD
    exact z_iret C0 hr hlk rfl hK hP hD hS (1, fun _ => 0) (Or.inr (⟨rfl, rfl, c1⟩)) [] rfl rfl rfl dX11_shut_35

set_option maxHeartbeats 4000000 in
set_option maxRecDepth 100000 in
theorem c_X12_isDay_1 (l : Launch) (D : va_G) (k : Nat → ClassId) (x_0 : Int32) : zMi l yX12_isDay cX12_isDay 1 (some .boolean) ({ frames := 1, cells := 0, slots := 0, locals := 25 }) D k [.int x_0] [] (fun r u => (u.1 = 0 ∧ r = 0 ∧ (((((Int32.toInt64 x_0) < 0) ∨ (¬ (Int32.toInt64 x_0) < 0 ∧ (399 : Int64) < (Int32.toInt64 x_0)))))) ∨ (u.1 = 1 ∧ r = 1 ∧ ((((¬ (Int32.toInt64 x_0) < 0 ∧ ¬ (399 : Int64) < (Int32.toInt64 x_0))))))) (fun u => []) := by
  refine zMi_of (own := RX12) (by decide +kernel) rfl (Nat.le_of_ble_eq_true rfl) ?_
  intro p e s m args below meth c A ls C0 hr hlk hin hP hD hS hA hK hN hl
  have hx := C0.1
  have hb := C0.2.1
  have hml := C0.2.2.1
  have hown := C0.2.2.2.1
  have hts := C0.2.2.2.2
  have hl : lv_has ls 1 [(0, .int x_0)] := hl
  have hP : va_P D vwCl [] s.heap := hP
  refine lv_iload_n hx hb dX12_isDay_0 rfl (lv_at hl 0 rfl) ?_
  refine lv_i2l (v := (Int32.toInt64 x_0)) hx hb dX12_isDay_1 rfl ?_
  refine lv_lconst (v := 0) hx hb dX12_isDay_2 (by decide) ?_
  refine lv_ldc2 hx hb hown (hts _ kL_X12_98) dX12_isDay_3 ?_
  refine z_bi0 (z_runS (As := [.long (Int32.toInt64 x_0), .long 0, .long 399]) (rest := []) C0 (c_X12_in_1 l D k (Int32.toInt64 x_0) 0 399 _) okS_X12_in kM_X12_100 rfl (z_p0 hK hN) rfl hl.1 rfl (Nat.le_of_ble_eq_true rfl) dX12_isDay_6 rfl) hP hS hA (fun r1 u1 H locs hw1 hP hS => ?_)
  obtain ⟨i1, a1⟩ := u1
  dsimp only at hw1
  rcases hw1 with ⟨rfl, rfl, c1⟩ | ⟨rfl, rfl, c1⟩
  · exact z_iret C0 hr hlk rfl hK hP hD hS (0, fun _ => 0) (Or.inl ⟨rfl, rfl, c1⟩) [] rfl rfl rfl dX12_isDay_9
  · exact z_iret C0 hr hlk rfl hK hP hD hS (1, fun _ => 0) (Or.inr (⟨rfl, rfl, c1⟩)) [] rfl rfl rfl dX12_isDay_9

set_option maxHeartbeats 4000000 in
set_option maxRecDepth 100000 in
theorem c_X12_isSchool_1 (l : Launch) (D : va_G) (k : Nat → ClassId) (q_0 : Nat) (q_1 : Nat) (q_2 : Nat) (q_3 : Nat) (q_4 : Nat) (q_5 : Nat) (q_6 : Nat) (q_7 : Nat) (q_8 : Nat) (q_9 : Nat) (q_10 : Nat) (q_11 : Nat) (q_12 : Nat) (q_13 : Nat) (q_14 : Nat) (q_15 : Nat) (q_16 : Nat) (q_17 : Nat) (q_18 : Nat) (q_19 : Nat) (q_20 : Nat) (q_21 : Nat) (q_22 : Nat) (q_23 : Nat) (q_24 : Nat) (q_25 : Nat) (x_0 : Int32) (x_1 : Int32) (x_2 : Int32) (x_3 : Int32) (x_4 : Int32) (x_5 : Int32) (x_6 : Int32) (x_7 : Int32) (g_8 : Int64) (x_9 : Int32) (x_10 : Int32) (x_11 : Int32) (x_12 : Int32) (x_13 : Int32) (x_14 : Int32) (x_15 : Int32) (x_16 : Int32) (g_17 : Int64) (g_18 : Int64) (x_19 : Int32) (x_20 : Int32) (x_21 : Int32) (x_22 : Int32) (x_23 : Int32) (x_24 : Int32) (x_25 : Int32) (x_26 : Int32) (x_27 : Int32) (x_28 : Int32) (x_29 : Int32) (x_30 : Int32) (x_31 : Int32) : zMi l yX12_isSchool cX12_isSchool 2 (some .boolean) ({ frames := 1, cells := 0, slots := 0, locals := 25 }) D k [.ref q_0, .int x_0] [(q_0, .inr (12, [.int x_1, .int x_2, .ref q_1, .ref q_2, .ref q_3, .int x_3, .ref q_4, .ref q_5, .ref q_6, .ref q_7, .ref q_8, .int x_4, .int x_5, .int x_6, .int x_7, .long g_8, .int x_9, .int x_10, .int x_11, .ref q_9, .int x_12, .ref q_10, .ref q_11, .int x_13, .ref q_12, .ref q_13, .int x_14, .int x_15, .ref q_14, .ref q_15, .ref q_16, .ref q_17, .int x_16, .long g_17, .long g_18, .int x_19, .int x_20, .int x_21, .int x_22, .ref q_18, .ref q_19, .int x_23, .int x_24, .int x_25, .int x_26, .ref q_20, .ref q_21, .int x_27, .int x_28, .ref q_22, .ref q_23, .ref q_24, .ref q_25, .int x_29, .int x_30, .int x_31])), (q_1, .inl (k 0, 27101, .inl (fun _ => 0)))] (fun r u => u.1 = 0 ∧ r = 0) (fun u => [(q_0, .inr (12, [.int x_1, .int x_2, .ref q_1, .ref q_2, .ref q_3, .int x_3, .ref q_4, .ref q_5, .ref q_6, .ref q_7, .ref q_8, .int x_4, .int x_5, .int x_6, .int x_7, .long g_8, .int x_9, .int x_10, .int x_11, .ref q_9, .int x_12, .ref q_10, .ref q_11, .int x_13, .ref q_12, .ref q_13, .int x_14, .int x_15, .ref q_14, .ref q_15, .ref q_16, .ref q_17, .int x_16, .long g_17, .long g_18, .int x_19, .int x_20, .int x_21, .int x_22, .ref q_18, .ref q_19, .int x_23, .int x_24, .int x_25, .int x_26, .ref q_20, .ref q_21, .int x_27, .int x_28, .ref q_22, .ref q_23, .ref q_24, .ref q_25, .int x_29, .int x_30, .int x_31])), (q_1, .inl (k 0, 27101, .inl (fun _ => 0)))]) := by
  refine zMi_of (own := RX12) (by decide +kernel) rfl (Nat.le_of_ble_eq_true rfl) ?_
  intro p e s m args below meth c A ls C0 hr hlk hin hP hD hS hA hK hN hl
  have hx := C0.1
  have hb := C0.2.1
  have hml := C0.2.2.1
  have hown := C0.2.2.2.1
  have hts := C0.2.2.2.2
  have hl : lv_has ls 2 [(0, .ref q_0), (1, .int x_0)] := hl
  have hP : va_P D vwCl [(q_0, .inr (12, [.int x_1, .int x_2, .ref q_1, .ref q_2, .ref q_3, .int x_3, .ref q_4, .ref q_5, .ref q_6, .ref q_7, .ref q_8, .int x_4, .int x_5, .int x_6, .int x_7, .long g_8, .int x_9, .int x_10, .int x_11, .ref q_9, .int x_12, .ref q_10, .ref q_11, .int x_13, .ref q_12, .ref q_13, .int x_14, .int x_15, .ref q_14, .ref q_15, .ref q_16, .ref q_17, .int x_16, .long g_17, .long g_18, .int x_19, .int x_20, .int x_21, .int x_22, .ref q_18, .ref q_19, .int x_23, .int x_24, .int x_25, .int x_26, .ref q_20, .ref q_21, .int x_27, .int x_28, .ref q_22, .ref q_23, .ref q_24, .ref q_25, .int x_29, .int x_30, .int x_31])), (q_1, .inl (k 0, 27101, .inl (fun _ => 0)))] s.heap := hP
  refine lv_iload_n hx hb dX12_isSchool_0 rfl (lv_at hl 1 rfl) ?_
  refine lv_i2l (v := (Int32.toInt64 x_0)) hx hb dX12_isSchool_1 rfl ?_
  refine lv_lconst (v := 0) hx hb dX12_isSchool_2 (by decide) ?_
  refine lv_aload_n hx hb dX12_isSchool_3 rfl (lv_at hl 0 rfl) ?_
  refine va_get (D := D) (ci := 12) (v := .ref q_1) (C := RX12) (T := TX12) (N := 56) hx hb hts inX12 hown hK hP 0 rfl rfl 2 (by decide) (hts _ kF_X12_7) (fun _ h9 => h9) rfl dX12_isSchool_4 ?_
  refine lv_iconst (v := 1) hx hb dX12_isSchool_7 (by decide) ?_
  refine va_iald hx hb hK hP 1 0 rfl rfl (by unfold vp_in; decide) dX12_isSchool_8 ?_
  refine lv_toc (v := 0) rfl ?_
  refine lv_i2l (v := 0) hx hb dX12_isSchool_9 (by decide) ?_
  refine lv_lconst (v := 1) hx hb dX12_isSchool_10 (by decide) ?_
  refine lv_lsub hx hb dX12_isSchool_11 ?_
  refine lv_tocl (v := (-1)) (by decide) ?_
  refine z_bi0 (z_runS (As := [.long (Int32.toInt64 x_0), .long 0, .long (-1)]) (rest := []) C0 (c_X12_in_1 l D k (Int32.toInt64 x_0) 0 (-1) _) okS_X12_in kM_X12_100 rfl (z_p0 hK hN) rfl hl.1 rfl (Nat.le_of_ble_eq_true rfl) dX12_isSchool_12 rfl) hP hS hA (fun r1 u1 H locs hw1 hP hS => ?_)
  obtain ⟨i1, a1⟩ := u1
  dsimp only at hw1
  rcases hw1 with ⟨rfl, rfl, c1⟩ | ⟨rfl, rfl, c1⟩
  · exact z_iret C0 hr hlk rfl hK hP hD hS (0, fun _ => 0) ⟨rfl, rfl⟩ [0, 1] rfl rfl rfl dX12_isSchool_15
  · exact (show False by have bA0 := Int32.le_toInt x_0; have bB0 := Int32.toInt_lt x_0; revert c1; simp only [vp_in_iff, Int32.lt_iff_toInt_lt, Int32.le_iff_toInt_le, Int64.lt_iff_toInt_lt, Int64.le_iff_toInt_le, Int32.toInt_toInt64, ← Int32.toInt_inj, ← Int64.toInt_inj, Int32.reduceToInt, Int64.reduceToInt] <;> omega).elim

set_option maxHeartbeats 4000000 in
set_option maxRecDepth 100000 in
theorem c_X12_told_3 (l : Launch) (D : va_G) (k : Nat → ClassId) (q_0 : Nat) (q_1 : Nat) (q_2 : Nat) (q_3 : Nat) (q_4 : Nat) (q_5 : Nat) (q_6 : Nat) (q_7 : Nat) (q_8 : Nat) (q_9 : Nat) (q_10 : Nat) (q_11 : Nat) (q_12 : Nat) (q_13 : Nat) (q_14 : Nat) (q_15 : Nat) (q_16 : Nat) (q_17 : Nat) (q_18 : Nat) (q_19 : Nat) (q_20 : Nat) (q_21 : Nat) (q_22 : Nat) (q_23 : Nat) (q_24 : Nat) (q_25 : Nat) (x_0 : Int32) (x_1 : Int32) (x_2 : Int32) (x_3 : Int32) (x_4 : Int32) (x_5 : Int32) (x_6 : Int32) (g_7 : Int64) (x_8 : Int32) (x_9 : Int32) (x_10 : Int32) (x_11 : Int32) (x_12 : Int32) (x_13 : Int32) (x_14 : Int32) (x_15 : Int32) (g_16 : Int64) (g_17 : Int64) (x_18 : Int32) (x_19 : Int32) (x_20 : Int32) (x_21 : Int32) (x_22 : Int32) (x_23 : Int32) (x_24 : Int32) (x_25 : Int32) (x_26 : Int32) (x_27 : Int32) (x_28 : Int32) (x_29 : Int32) (x_30 : Int32) : zMi l yX12_told cX12_told 2 (some .int) ({ frames := 0, cells := 0, slots := 0, locals := 0 }) D k [.ref q_0, .int (-2)] [(q_0, .inr (12, [.int x_0, .int x_1, .ref q_1, .ref q_2, .ref q_3, .int x_2, .ref q_4, .ref q_5, .ref q_6, .ref q_7, .ref q_8, .int x_3, .int x_4, .int x_5, .int x_6, .long g_7, .int x_8, .int x_9, .int x_10, .ref q_9, .int x_11, .ref q_10, .ref q_11, .int x_12, .ref q_12, .ref q_13, .int x_13, .int x_14, .ref q_14, .ref q_15, .ref q_16, .ref q_17, .int x_15, .long g_16, .long g_17, .int x_18, .int x_19, .int x_20, .int x_21, .ref q_18, .ref q_19, .int x_22, .int x_23, .int x_24, .int x_25, .ref q_20, .ref q_21, .int x_26, .int x_27, .ref q_22, .ref q_23, .ref q_24, .ref q_25, .int x_28, .int x_29, .int x_30]))] (fun r u => u.1 = 0 ∧ r = (-2)) (fun u => [(q_0, .inr (12, [.int x_0, .int (-2), .ref q_1, .ref q_2, .ref q_3, .int x_2, .ref q_4, .ref q_5, .ref q_6, .ref q_7, .ref q_8, .int x_3, .int x_4, .int x_5, .int x_6, .long g_7, .int x_8, .int x_9, .int x_10, .ref q_9, .int x_11, .ref q_10, .ref q_11, .int x_12, .ref q_12, .ref q_13, .int x_13, .int x_14, .ref q_14, .ref q_15, .ref q_16, .ref q_17, .int x_15, .long g_16, .long g_17, .int x_18, .int x_19, .int x_20, .int x_21, .ref q_18, .ref q_19, .int x_22, .int x_23, .int x_24, .int x_25, .ref q_20, .ref q_21, .int x_26, .int x_27, .ref q_22, .ref q_23, .ref q_24, .ref q_25, .int x_28, .int x_29, .int x_30]))]) := by
  refine zMi_of (own := RX12) (by decide +kernel) rfl (Nat.le_of_ble_eq_true rfl) ?_
  intro p e s m args below meth c A ls C0 hr hlk hin hP hD hS hA hK hN hl
  have hx := C0.1
  have hb := C0.2.1
  have hml := C0.2.2.1
  have hown := C0.2.2.2.1
  have hts := C0.2.2.2.2
  have hl : lv_has ls 2 [(0, .ref q_0), (1, .int (-2))] := hl
  have hP : va_P D vwCl [(q_0, .inr (12, [.int x_0, .int x_1, .ref q_1, .ref q_2, .ref q_3, .int x_2, .ref q_4, .ref q_5, .ref q_6, .ref q_7, .ref q_8, .int x_3, .int x_4, .int x_5, .int x_6, .long g_7, .int x_8, .int x_9, .int x_10, .ref q_9, .int x_11, .ref q_10, .ref q_11, .int x_12, .ref q_12, .ref q_13, .int x_13, .int x_14, .ref q_14, .ref q_15, .ref q_16, .ref q_17, .int x_15, .long g_16, .long g_17, .int x_18, .int x_19, .int x_20, .int x_21, .ref q_18, .ref q_19, .int x_22, .int x_23, .int x_24, .int x_25, .ref q_20, .ref q_21, .int x_26, .int x_27, .ref q_22, .ref q_23, .ref q_24, .ref q_25, .int x_28, .int x_29, .int x_30]))] s.heap := hP
  refine lv_aload_n hx hb dX12_told_0 rfl (lv_at hl 0 rfl) ?_
  refine lv_iload_n hx hb dX12_told_1 rfl (lv_at hl 1 rfl) ?_
  refine lv_if_ge (tgt := 9) hx hb dX12_told_2 (by decide) (fun c1 => absurd c1 (by decide)) (fun _ => ?_)
  refine lv_iload_n hx hb dX12_told_5 rfl (lv_at hl 1 rfl) ?_
  refine lv_goto (tgt := 10) hx hb dX12_told_6 (by decide) ?_
  refine va_put (D := D) (ci := 12) (v := .int (-2)) (ty := .int) (C := RX12) (T := TX12) (N := 56) hx hb hts inX12 tyX12 tyX12_ok nmX12 hown hK hP hD hS 0 rfl rfl 1 (by decide) (hts _ kF_X12_95) (fun _ h9 => h9) rfl (by decide +kernel) rfl rfl (Nat.le_of_ble_eq_true rfl) dX12_told_10 (fun H locs hP hD hS => ?_)
  have hP : va_P D vwCl [(q_0, .inr (12, [.int x_0, .int (-2), .ref q_1, .ref q_2, .ref q_3, .int x_2, .ref q_4, .ref q_5, .ref q_6, .ref q_7, .ref q_8, .int x_3, .int x_4, .int x_5, .int x_6, .long g_7, .int x_8, .int x_9, .int x_10, .ref q_9, .int x_11, .ref q_10, .ref q_11, .int x_12, .ref q_12, .ref q_13, .int x_13, .int x_14, .ref q_14, .ref q_15, .ref q_16, .ref q_17, .int x_15, .long g_16, .long g_17, .int x_18, .int x_19, .int x_20, .int x_21, .ref q_18, .ref q_19, .int x_22, .int x_23, .int x_24, .int x_25, .ref q_20, .ref q_21, .int x_26, .int x_27, .ref q_22, .ref q_23, .ref q_24, .ref q_25, .int x_28, .int x_29, .int x_30]))] H := hP
  have hD : va_D A [(q_0, .inr (12, [.int x_0, .int (-2), .ref q_1, .ref q_2, .ref q_3, .int x_2, .ref q_4, .ref q_5, .ref q_6, .ref q_7, .ref q_8, .int x_3, .int x_4, .int x_5, .int x_6, .long g_7, .int x_8, .int x_9, .int x_10, .ref q_9, .int x_11, .ref q_10, .ref q_11, .int x_12, .ref q_12, .ref q_13, .int x_13, .int x_14, .ref q_14, .ref q_15, .ref q_16, .ref q_17, .int x_15, .long g_16, .long g_17, .int x_18, .int x_19, .int x_20, .int x_21, .ref q_18, .ref q_19, .int x_22, .int x_23, .int x_24, .int x_25, .ref q_20, .ref q_21, .int x_26, .int x_27, .ref q_22, .ref q_23, .ref q_24, .ref q_25, .int x_28, .int x_29, .int x_30]))] := hD
  refine lv_iload_n hx hb dX12_told_13 rfl (lv_at hl 1 rfl) ?_
  exact z_iret C0 hr hlk rfl hK hP hD hS (0, fun _ => 0) ⟨rfl, rfl⟩ [0] rfl rfl rfl dX12_told_14

set_option maxHeartbeats 4000000 in
set_option maxRecDepth 100000 in
theorem c_X12_shut_1 (l : Launch) (D : va_G) (k : Nat → ClassId) (q_0 : Nat) (q_1 : Nat) (q_2 : Nat) (q_3 : Nat) (q_4 : Nat) (q_5 : Nat) (q_6 : Nat) (q_7 : Nat) (q_8 : Nat) (q_9 : Nat) (q_10 : Nat) (q_11 : Nat) (q_12 : Nat) (q_13 : Nat) (q_14 : Nat) (q_15 : Nat) (q_16 : Nat) (q_17 : Nat) (q_18 : Nat) (q_19 : Nat) (q_20 : Nat) (q_21 : Nat) (q_22 : Nat) (q_23 : Nat) (q_24 : Nat) (q_25 : Nat) (x_0 : Int32) (x_1 : Int32) (x_2 : Int32) (x_3 : Int32) (x_4 : Int32) (x_5 : Int32) (x_6 : Int32) (x_7 : Int32) (x_8 : Int32) (g_9 : Int64) (x_10 : Int32) (x_11 : Int32) (x_12 : Int32) (x_13 : Int32) (x_14 : Int32) (x_15 : Int32) (x_16 : Int32) (x_17 : Int32) (g_18 : Int64) (g_19 : Int64) (x_20 : Int32) (x_21 : Int32) (x_22 : Int32) (x_23 : Int32) (x_24 : Int32) (x_25 : Int32) (x_26 : Int32) (x_27 : Int32) (x_28 : Int32) (x_29 : Int32) (x_30 : Int32) (x_31 : Int32) (x_32 : Int32) : zMi l yX12_shut cX12_shut 3 (some .int) ({ frames := 2, cells := 0, slots := 0, locals := 46 }) D k [.ref q_0, .int x_0, .int x_1] [(q_0, .inr (12, [.int x_2, .int x_3, .ref q_1, .ref q_2, .ref q_3, .int x_4, .ref q_4, .ref q_5, .ref q_6, .ref q_7, .ref q_8, .int x_5, .int x_6, .int x_7, .int x_8, .long g_9, .int x_10, .int x_11, .int x_12, .ref q_9, .int x_13, .ref q_10, .ref q_11, .int x_14, .ref q_12, .ref q_13, .int x_15, .int x_16, .ref q_14, .ref q_15, .ref q_16, .ref q_17, .int x_17, .long g_18, .long g_19, .int x_20, .int x_21, .int x_22, .int x_23, .ref q_18, .ref q_19, .int x_24, .int x_25, .int x_26, .int x_27, .ref q_20, .ref q_21, .int x_28, .int x_29, .ref q_22, .ref q_23, .ref q_24, .ref q_25, .int x_30, .int x_31, .int x_32])), (q_1, .inl (k 0, 27101, .inl (fun _ => 0)))] (fun r u => (u.1 = 0 ∧ r = (-1) ∧ (((((Int32.toInt64 x_1) < 0) ∨ (¬ (Int32.toInt64 x_1) < 0 ∧ (399 : Int64) < (Int32.toInt64 x_1)))))) ∨ (u.1 = 1 ∧ r = (-2) ∧ ((((¬ (Int32.toInt64 x_1) < 0 ∧ ¬ (399 : Int64) < (Int32.toInt64 x_1))))))) (fun u => []) := by
  refine zMi_of (own := RX12) (by decide +kernel) rfl (Nat.le_of_ble_eq_true rfl) ?_
  intro p e s m args below meth c A ls C0 hr hlk hin hP hD hS hA hK hN hl
  have hx := C0.1
  have hb := C0.2.1
  have hml := C0.2.2.1
  have hown := C0.2.2.2.1
  have hts := C0.2.2.2.2
  have hl : lv_has ls 3 [(0, .ref q_0), (1, .int x_0), (2, .int x_1)] := hl
  have hP : va_P D vwCl [(q_0, .inr (12, [.int x_2, .int x_3, .ref q_1, .ref q_2, .ref q_3, .int x_4, .ref q_4, .ref q_5, .ref q_6, .ref q_7, .ref q_8, .int x_5, .int x_6, .int x_7, .int x_8, .long g_9, .int x_10, .int x_11, .int x_12, .ref q_9, .int x_13, .ref q_10, .ref q_11, .int x_14, .ref q_12, .ref q_13, .int x_15, .int x_16, .ref q_14, .ref q_15, .ref q_16, .ref q_17, .int x_17, .long g_18, .long g_19, .int x_20, .int x_21, .int x_22, .int x_23, .ref q_18, .ref q_19, .int x_24, .int x_25, .int x_26, .int x_27, .ref q_20, .ref q_21, .int x_28, .int x_29, .ref q_22, .ref q_23, .ref q_24, .ref q_25, .int x_30, .int x_31, .int x_32])), (q_1, .inl (k 0, 27101, .inl (fun _ => 0)))] s.heap := hP
  refine lv_aload_n hx hb dX12_shut_0 rfl (lv_at hl 0 rfl) ?_
  refine lv_iconst (v := 0) hx hb dX12_shut_1 (by decide) ?_
  refine va_put (D := D) (ci := 12) (v := .int 0) (ty := .int) (C := RX12) (T := TX12) (N := 56) hx hb hts inX12 tyX12 tyX12_ok nmX12 hown hK hP hD hS 0 rfl rfl 0 (by decide) (hts _ kF_X12_92) (fun _ h9 => h9) rfl (by decide +kernel) rfl rfl (Nat.le_of_ble_eq_true rfl) dX12_shut_2 (fun H locs hP hD hS => ?_)
  have hP : va_P D vwCl [(q_0, .inr (12, [.int 0, .int x_3, .ref q_1, .ref q_2, .ref q_3, .int x_4, .ref q_4, .ref q_5, .ref q_6, .ref q_7, .ref q_8, .int x_5, .int x_6, .int x_7, .int x_8, .long g_9, .int x_10, .int x_11, .int x_12, .ref q_9, .int x_13, .ref q_10, .ref q_11, .int x_14, .ref q_12, .ref q_13, .int x_15, .int x_16, .ref q_14, .ref q_15, .ref q_16, .ref q_17, .int x_17, .long g_18, .long g_19, .int x_20, .int x_21, .int x_22, .int x_23, .ref q_18, .ref q_19, .int x_24, .int x_25, .int x_26, .int x_27, .ref q_20, .ref q_21, .int x_28, .int x_29, .ref q_22, .ref q_23, .ref q_24, .ref q_25, .int x_30, .int x_31, .int x_32])), (q_1, .inl (k 0, 27101, .inl (fun _ => 0)))] H := hP
  have hD : va_D A [(q_0, .inr (12, [.int 0, .int x_3, .ref q_1, .ref q_2, .ref q_3, .int x_4, .ref q_4, .ref q_5, .ref q_6, .ref q_7, .ref q_8, .int x_5, .int x_6, .int x_7, .int x_8, .long g_9, .int x_10, .int x_11, .int x_12, .ref q_9, .int x_13, .ref q_10, .ref q_11, .int x_14, .ref q_12, .ref q_13, .int x_15, .int x_16, .ref q_14, .ref q_15, .ref q_16, .ref q_17, .int x_17, .long g_18, .long g_19, .int x_20, .int x_21, .int x_22, .int x_23, .ref q_18, .ref q_19, .int x_24, .int x_25, .int x_26, .int x_27, .ref q_20, .ref q_21, .int x_28, .int x_29, .ref q_22, .ref q_23, .ref q_24, .ref q_25, .int x_30, .int x_31, .int x_32])), (q_1, .inl (k 0, 27101, .inl (fun _ => 0)))] := hD
  refine lv_iload_n hx hb dX12_shut_5 rfl (lv_at hl 2 rfl) ?_
  refine z_bi0 (z_runS (As := [.int x_1]) (rest := []) C0 (c_X12_isDay_1 l D k x_1 _) okS_X12_isDay kM_X12_127 rfl (z_p0 hK hN) rfl hl.1 rfl (Nat.le_of_ble_eq_true rfl) dX12_shut_6 rfl) hP hS hA (fun r1 u1 H locs hw1 hP hS => ?_)
  obtain ⟨i1, a1⟩ := u1
  dsimp only at hw1
  rcases hw1 with ⟨rfl, rfl, c1⟩ | ⟨rfl, rfl, c1⟩
  · refine lv_if_ne (tgt := 18) hx hb dX12_shut_9 (by decide) (fun c2 => absurd (by decide) c2) (fun _ => ?_)
    refine lv_aload_n hx hb dX12_shut_12 rfl (lv_at hl 0 rfl) ?_
    refine lv_iconst (v := (-1)) hx hb dX12_shut_13 (by decide) ?_
    refine z_bi (wr := [(q_1, .inl (k 0, 27101, .inl (fun _ => 0)))]) (z_runV (C := RX12) (As := [.int (-1)]) (rest := []) C0 (c_X12_told_1 l D k q_0 q_1 q_2 q_3 q_4 q_5 q_6 q_7 q_8 q_9 q_10 q_11 q_12 q_13 q_14 q_15 q_16 q_17 q_18 q_19 q_20 q_21 q_22 q_23 q_24 q_25 0 x_3 x_4 x_5 x_6 x_7 x_8 g_9 x_10 x_11 x_12 x_13 x_14 x_15 x_16 x_17 g_18 g_19 x_20 x_21 x_22 x_23 x_24 x_25 x_26 x_27 x_28 x_29 x_30 x_31 x_32 _) okV_X12_told kM_X12_106 rfl (z_pV (q0 := 0) hK hN hP hD [0] rfl rfl rfl rfl rfl) rfl hl.1 rfl (Nat.le_of_ble_eq_true rfl) dX12_shut_14 rfl) hP hD hS hA [0] [1] rfl rfl rfl rfl (fun r3 u3 H locs hw3 hP hD hS => ?_)
    obtain ⟨i3, a3⟩ := u3
    dsimp only at hw3
    obtain ⟨rfl, rfl⟩ := hw3
    have hP : va_P D vwCl [(q_1, .inl (k 0, 27101, .inl (fun _ => 0))), (q_0, .inr (12, [.int 0, .int (-1), .ref q_1, .ref q_2, .ref q_3, .int x_4, .ref q_4, .ref q_5, .ref q_6, .ref q_7, .ref q_8, .int x_5, .int x_6, .int x_7, .int x_8, .long g_9, .int x_10, .int x_11, .int x_12, .ref q_9, .int x_13, .ref q_10, .ref q_11, .int x_14, .ref q_12, .ref q_13, .int x_15, .int x_16, .ref q_14, .ref q_15, .ref q_16, .ref q_17, .int x_17, .long g_18, .long g_19, .int x_20, .int x_21, .int x_22, .int x_23, .ref q_18, .ref q_19, .int x_24, .int x_25, .int x_26, .int x_27, .ref q_20, .ref q_21, .int x_28, .int x_29, .ref q_22, .ref q_23, .ref q_24, .ref q_25, .int x_30, .int x_31, .int x_32]))] H := hP
    have hD : va_D A [(q_1, .inl (k 0, 27101, .inl (fun _ => 0))), (q_0, .inr (12, [.int 0, .int (-1), .ref q_1, .ref q_2, .ref q_3, .int x_4, .ref q_4, .ref q_5, .ref q_6, .ref q_7, .ref q_8, .int x_5, .int x_6, .int x_7, .int x_8, .long g_9, .int x_10, .int x_11, .int x_12, .ref q_9, .int x_13, .ref q_10, .ref q_11, .int x_14, .ref q_12, .ref q_13, .int x_15, .int x_16, .ref q_14, .ref q_15, .ref q_16, .ref q_17, .int x_17, .long g_18, .long g_19, .int x_20, .int x_21, .int x_22, .int x_23, .ref q_18, .ref q_19, .int x_24, .int x_25, .int x_26, .int x_27, .ref q_20, .ref q_21, .int x_28, .int x_29, .ref q_22, .ref q_23, .ref q_24, .ref q_25, .int x_30, .int x_31, .int x_32]))] := hD
    exact z_iret C0 hr hlk rfl hK hP hD hS (0, fun _ => 0) (Or.inl ⟨rfl, rfl, c1⟩) [] rfl rfl rfl dX12_shut_17
  · refine lv_if_ne (tgt := 18) hx hb dX12_shut_9 (by decide) (fun _ => ?_) (fun c4 => absurd c4 (by decide))
    refine lv_aload_n hx hb dX12_shut_18 rfl (lv_at hl 0 rfl) ?_
    refine lv_iload_n hx hb dX12_shut_19 rfl (lv_at hl 1 rfl) ?_
    refine z_bi (wr := []) (z_runV (C := RX12) (As := [.int x_0]) (rest := []) C0 (c_X12_isSchool_1 l D k q_0 q_1 q_2 q_3 q_4 q_5 q_6 q_7 q_8 q_9 q_10 q_11 q_12 q_13 q_14 q_15 q_16 q_17 q_18 q_19 q_20 q_21 q_22 q_23 q_24 q_25 x_0 0 x_3 x_4 x_5 x_6 x_7 x_8 g_9 x_10 x_11 x_12 x_13 x_14 x_15 x_16 x_17 g_18 g_19 x_20 x_21 x_22 x_23 x_24 x_25 x_26 x_27 x_28 x_29 x_30 x_31 x_32 _) okV_X12_isSchool kM_X12_131 rfl (z_pV (q0 := 0) hK hN hP hD [0, 1] rfl rfl rfl rfl rfl) rfl hl.1 rfl (Nat.le_of_ble_eq_true rfl) dX12_shut_20 rfl) hP hD hS hA [0, 1] [] rfl rfl rfl rfl (fun r5 u5 H locs hw5 hP hD hS => ?_)
    obtain ⟨i5, a5⟩ := u5
    dsimp only at hw5
    obtain ⟨rfl, rfl⟩ := hw5
    have hP : va_P D vwCl [(q_0, .inr (12, [.int 0, .int x_3, .ref q_1, .ref q_2, .ref q_3, .int x_4, .ref q_4, .ref q_5, .ref q_6, .ref q_7, .ref q_8, .int x_5, .int x_6, .int x_7, .int x_8, .long g_9, .int x_10, .int x_11, .int x_12, .ref q_9, .int x_13, .ref q_10, .ref q_11, .int x_14, .ref q_12, .ref q_13, .int x_15, .int x_16, .ref q_14, .ref q_15, .ref q_16, .ref q_17, .int x_17, .long g_18, .long g_19, .int x_20, .int x_21, .int x_22, .int x_23, .ref q_18, .ref q_19, .int x_24, .int x_25, .int x_26, .int x_27, .ref q_20, .ref q_21, .int x_28, .int x_29, .ref q_22, .ref q_23, .ref q_24, .ref q_25, .int x_30, .int x_31, .int x_32])), (q_1, .inl (k 0, 27101, .inl (fun _ => 0)))] H := hP
    have hD : va_D A [(q_0, .inr (12, [.int 0, .int x_3, .ref q_1, .ref q_2, .ref q_3, .int x_4, .ref q_4, .ref q_5, .ref q_6, .ref q_7, .ref q_8, .int x_5, .int x_6, .int x_7, .int x_8, .long g_9, .int x_10, .int x_11, .int x_12, .ref q_9, .int x_13, .ref q_10, .ref q_11, .int x_14, .ref q_12, .ref q_13, .int x_15, .int x_16, .ref q_14, .ref q_15, .ref q_16, .ref q_17, .int x_17, .long g_18, .long g_19, .int x_20, .int x_21, .int x_22, .int x_23, .ref q_18, .ref q_19, .int x_24, .int x_25, .int x_26, .int x_27, .ref q_20, .ref q_21, .int x_28, .int x_29, .ref q_22, .ref q_23, .ref q_24, .ref q_25, .int x_30, .int x_31, .int x_32])), (q_1, .inl (k 0, 27101, .inl (fun _ => 0)))] := hD
    refine lv_if_ne (tgt := 33) hx hb dX12_shut_23 (by decide) (fun c6 => absurd (by decide) c6) (fun _ => ?_)
    refine lv_aload_n hx hb dX12_shut_26 rfl (lv_at hl 0 rfl) ?_
    refine lv_bipush (v := (-2)) hx hb dX12_shut_27 (by decide) ?_
    refine z_bi (wr := [(q_1, .inl (k 0, 27101, .inl (fun _ => 0)))]) (z_runV (C := RX12) (As := [.int (-2)]) (rest := []) C0 (c_X12_told_3 l D k q_0 q_1 q_2 q_3 q_4 q_5 q_6 q_7 q_8 q_9 q_10 q_11 q_12 q_13 q_14 q_15 q_16 q_17 q_18 q_19 q_20 q_21 q_22 q_23 q_24 q_25 0 x_3 x_4 x_5 x_6 x_7 x_8 g_9 x_10 x_11 x_12 x_13 x_14 x_15 x_16 x_17 g_18 g_19 x_20 x_21 x_22 x_23 x_24 x_25 x_26 x_27 x_28 x_29 x_30 x_31 x_32 _) okV_X12_told kM_X12_106 rfl (z_pV (q0 := 0) hK hN hP hD [0] rfl rfl rfl rfl rfl) rfl hl.1 rfl (Nat.le_of_ble_eq_true rfl) dX12_shut_29 rfl) hP hD hS hA [0] [1] rfl rfl rfl rfl (fun r7 u7 H locs hw7 hP hD hS => ?_)
    obtain ⟨i7, a7⟩ := u7
    dsimp only at hw7
    obtain ⟨rfl, rfl⟩ := hw7
    have hP : va_P D vwCl [(q_1, .inl (k 0, 27101, .inl (fun _ => 0))), (q_0, .inr (12, [.int 0, .int (-2), .ref q_1, .ref q_2, .ref q_3, .int x_4, .ref q_4, .ref q_5, .ref q_6, .ref q_7, .ref q_8, .int x_5, .int x_6, .int x_7, .int x_8, .long g_9, .int x_10, .int x_11, .int x_12, .ref q_9, .int x_13, .ref q_10, .ref q_11, .int x_14, .ref q_12, .ref q_13, .int x_15, .int x_16, .ref q_14, .ref q_15, .ref q_16, .ref q_17, .int x_17, .long g_18, .long g_19, .int x_20, .int x_21, .int x_22, .int x_23, .ref q_18, .ref q_19, .int x_24, .int x_25, .int x_26, .int x_27, .ref q_20, .ref q_21, .int x_28, .int x_29, .ref q_22, .ref q_23, .ref q_24, .ref q_25, .int x_30, .int x_31, .int x_32]))] H := hP
    have hD : va_D A [(q_1, .inl (k 0, 27101, .inl (fun _ => 0))), (q_0, .inr (12, [.int 0, .int (-2), .ref q_1, .ref q_2, .ref q_3, .int x_4, .ref q_4, .ref q_5, .ref q_6, .ref q_7, .ref q_8, .int x_5, .int x_6, .int x_7, .int x_8, .long g_9, .int x_10, .int x_11, .int x_12, .ref q_9, .int x_13, .ref q_10, .ref q_11, .int x_14, .ref q_12, .ref q_13, .int x_15, .int x_16, .ref q_14, .ref q_15, .ref q_16, .ref q_17, .int x_17, .long g_18, .long g_19, .int x_20, .int x_21, .int x_22, .int x_23, .ref q_18, .ref q_19, .int x_24, .int x_25, .int x_26, .int x_27, .ref q_20, .ref q_21, .int x_28, .int x_29, .ref q_22, .ref q_23, .ref q_24, .ref q_25, .int x_30, .int x_31, .int x_32]))] := hD
    exact z_iret C0 hr hlk rfl hK hP hD hS (1, fun _ => 0) (Or.inr (⟨rfl, rfl, c1⟩)) [] rfl rfl rfl dX12_shut_32

set_option maxHeartbeats 4000000 in
set_option maxRecDepth 100000 in
theorem c_X6_isNoChild_1 (l : Launch) (D : va_G) (k : Nat → ClassId) (q_0 : Nat) (q_1 : Nat) (q_2 : Nat) (q_3 : Nat) (q_4 : Nat) (q_5 : Nat) (q_6 : Nat) (q_7 : Nat) (q_8 : Nat) (q_9 : Nat) (q_10 : Nat) (q_11 : Nat) (q_12 : Nat) (x_0 : Int32) (x_1 : Int32) (x_2 : Int32) : zMi l yX6_isNoChild cX6_isNoChild 2 (some .boolean) ({ frames := 0, cells := 0, slots := 0, locals := 0 }) D k [.ref q_0, .int x_0] [(q_0, .inr (6, [.int 0, .ref q_1, .ref q_2, .ref q_3, .ref q_4, .ref q_5, .int x_1, .ref q_6, .int x_2, .ref q_7, .ref q_8, .ref q_9, .ref q_10, .ref q_11, .ref q_12]))] (fun r u => u.1 = 0 ∧ r = 1) (fun u => [(q_0, .inr (6, [.int 0, .ref q_1, .ref q_2, .ref q_3, .ref q_4, .ref q_5, .int x_1, .ref q_6, .int x_2, .ref q_7, .ref q_8, .ref q_9, .ref q_10, .ref q_11, .ref q_12]))]) := by
  refine zMi_of (own := RX6) (by decide +kernel) rfl (Nat.le_of_ble_eq_true rfl) ?_
  intro p e s m args below meth c A ls C0 hr hlk hin hP hD hS hA hK hN hl
  have hx := C0.1
  have hb := C0.2.1
  have hml := C0.2.2.1
  have hown := C0.2.2.2.1
  have hts := C0.2.2.2.2
  have hl : lv_has ls 2 [(0, .ref q_0), (1, .int x_0)] := hl
  have hP : va_P D vwCl [(q_0, .inr (6, [.int 0, .ref q_1, .ref q_2, .ref q_3, .ref q_4, .ref q_5, .int x_1, .ref q_6, .int x_2, .ref q_7, .ref q_8, .ref q_9, .ref q_10, .ref q_11, .ref q_12]))] s.heap := hP
  refine lv_iload_n hx hb dX6_isNoChild_0 rfl (lv_at hl 1 rfl) ?_
  refine lv_if_lt (tgt := 12) hx hb dX6_isNoChild_1 (by decide) (fun c1 => ?_) (fun c1 => ?_)
  · refine lv_iconst (v := 1) hx hb dX6_isNoChild_12 (by decide) ?_
    refine lv_goto (tgt := 17) hx hb dX6_isNoChild_13 (by decide) ?_
    exact z_iret C0 hr hlk rfl hK hP hD hS (0, fun _ => 0) ⟨rfl, rfl⟩ [0] rfl rfl rfl dX6_isNoChild_17
  · refine lv_iload_n hx hb dX6_isNoChild_4 rfl (lv_at hl 1 rfl) ?_
    refine lv_aload_n hx hb dX6_isNoChild_5 rfl (lv_at hl 0 rfl) ?_
    refine va_get (D := D) (ci := 6) (v := .int 0) (C := RX6) (T := TX6) (N := 15) hx hb hts inX6 hown hK hP 0 rfl rfl 0 (by decide) (hts _ kF_X6_48) (fun _ h9 => h9) rfl dX6_isNoChild_6 ?_
    refine lv_icmp_lt (tgt := 16) hx hb dX6_isNoChild_9 (by decide) (fun c2 => ?_) (fun c2 => ?_)
    · exact (show False by have bA0 := Int32.le_toInt x_0; have bB0 := Int32.toInt_lt x_0; revert c1 c2; simp only [vp_in_iff, Int32.lt_iff_toInt_lt, Int32.le_iff_toInt_le, Int64.lt_iff_toInt_lt, Int64.le_iff_toInt_le, Int32.toInt_toInt64, ← Int32.toInt_inj, ← Int64.toInt_inj, Int32.reduceToInt, Int64.reduceToInt] <;> omega).elim
    · refine lv_iconst (v := 1) hx hb dX6_isNoChild_12 (by decide) ?_
      refine lv_goto (tgt := 17) hx hb dX6_isNoChild_13 (by decide) ?_
      exact z_iret C0 hr hlk rfl hK hP hD hS (0, fun _ => 0) ⟨rfl, rfl⟩ [0] rfl rfl rfl dX6_isNoChild_17

set_option maxHeartbeats 4000000 in
set_option maxRecDepth 100000 in
theorem c_X11_comes_1 (l : Launch) (D : va_G) (k : Nat → ClassId) (q_0 : Nat) (q_1 : Nat) (q_2 : Nat) (q_3 : Nat) (q_4 : Nat) (q_5 : Nat) (q_6 : Nat) (q_7 : Nat) (q_8 : Nat) (q_9 : Nat) (q_10 : Nat) (q_11 : Nat) (q_12 : Nat) (q_13 : Nat) (q_14 : Nat) (q_15 : Nat) (q_16 : Nat) (q_17 : Nat) (q_18 : Nat) (q_19 : Nat) (q_20 : Nat) (q_21 : Nat) (q_22 : Nat) (q_23 : Nat) (x_0 : Int32) (x_1 : Int32) (x_2 : Int32) (x_3 : Int32) (x_4 : Int32) (x_5 : Int32) : zMi l yX11_comes cX11_comes 6 (some .int) ({ frames := 1, cells := 0, slots := 0, locals := 21 }) D k [.ref q_0, .int x_0, .int x_1, .int x_2] [(q_0, .inr (11, [.ref q_1, .ref q_3, .ref q_4, .ref q_5, .ref q_6, .int x_3])), (q_1, .inr (3, [.ref q_2, .ref q_7, .ref q_8, .ref q_9, .ref q_10, .ref q_11])), (q_2, .inr (6, [.int 0, .ref q_12, .ref q_13, .ref q_14, .ref q_15, .ref q_16, .int x_4, .ref q_17, .int x_5, .ref q_18, .ref q_19, .ref q_20, .ref q_21, .ref q_22, .ref q_23]))] (fun r u => (u.1 = 0 ∧ r = (-1) ∧ ((((x_2 < 0) ∨ (¬ x_2 < 0 ∧ ¬ x_2 < 400))))) ∨ (u.1 = 1 ∧ r = (-2) ∧ ((((¬ x_2 < 0 ∧ x_2 < 400)))))) (fun u => []) := by
  refine zMi_of (own := RX11) (by decide +kernel) rfl (Nat.le_of_ble_eq_true rfl) ?_
  intro p e s m args below meth c A ls C0 hr hlk hin hP hD hS hA hK hN hl
  have hx := C0.1
  have hb := C0.2.1
  have hml := C0.2.2.1
  have hown := C0.2.2.2.1
  have hts := C0.2.2.2.2
  have hl : lv_has ls 6 [(0, .ref q_0), (1, .int x_0), (2, .int x_1), (3, .int x_2)] := hl
  have hP : va_P D vwCl [(q_0, .inr (11, [.ref q_1, .ref q_3, .ref q_4, .ref q_5, .ref q_6, .int x_3])), (q_1, .inr (3, [.ref q_2, .ref q_7, .ref q_8, .ref q_9, .ref q_10, .ref q_11])), (q_2, .inr (6, [.int 0, .ref q_12, .ref q_13, .ref q_14, .ref q_15, .ref q_16, .int x_4, .ref q_17, .int x_5, .ref q_18, .ref q_19, .ref q_20, .ref q_21, .ref q_22, .ref q_23]))] s.heap := hP
  refine lv_aload_n hx hb dX11_comes_0 rfl (lv_at hl 0 rfl) ?_
  refine va_get (D := D) (ci := 11) (v := .ref q_1) (C := RX11) (T := TX11) (N := 6) hx hb hts inX11 hown hK hP 0 rfl rfl 0 (by decide) (hts _ kF_X11_12) (fun _ h9 => h9) rfl dX11_comes_1 ?_
  refine va_get (D := D) (ci := 3) (v := .ref q_7) (C := RX3) (T := TX3) (N := 6) hx hb hts inX3 hown hK hP 1 rfl rfl 1 (by decide) (hts _ kF_X11_86) (fun _ h9 => h9) rfl dX11_comes_4 ?_
  refine lv_astore (lv' := [(4, .ref q_7), (0, .ref q_0), (1, .int x_0), (2, .int x_1), (3, .int x_2)]) hx hb dX11_comes_7 hl (by decide) rfl (fun ls hl => ?_)
  refine lv_iload_n hx hb dX11_comes_9 rfl (lv_at hl 4 rfl) ?_
  refine z_bi0 (z_runS (As := [.int x_2]) (rest := []) C0 (c_X11_isNoDay_1 l D k x_2 _) okS_X11_isNoDay kM_X11_72 rfl (z_p0 hK hN) rfl hl.1 rfl (Nat.le_of_ble_eq_true rfl) dX11_comes_10 rfl) hP hS hA (fun r1 u1 H locs hw1 hP hS => ?_)
  obtain ⟨i1, a1⟩ := u1
  dsimp only at hw1
  rcases hw1 with ⟨rfl, rfl, c1⟩ | ⟨rfl, rfl, c1⟩
  · refine lv_if_eq (tgt := 22) hx hb dX11_comes_13 (by decide) (fun c2 => absurd c2 (by decide)) (fun _ => ?_)
    refine lv_aload_n hx hb dX11_comes_16 rfl (lv_at hl 1 rfl) ?_
    refine lv_iconst (v := (-1)) hx hb dX11_comes_17 (by decide) ?_
    refine z_bi (wr := [(q_1, .inr (3, [.ref q_2, .ref q_7, .ref q_8, .ref q_9, .ref q_10, .ref q_11])), (q_2, .inr (6, [.int 0, .ref q_12, .ref q_13, .ref q_14, .ref q_15, .ref q_16, .int x_4, .ref q_17, .int x_5, .ref q_18, .ref q_19, .ref q_20, .ref q_21, .ref q_22, .ref q_23]))]) (z_runV (C := RX11) (As := [.int (-1)]) (rest := []) C0 (c_X11_answer_1 l D k q_0 q_1 q_3 q_4 q_5 q_6 x_3 _) okV_X11_answer kM_X11_55 rfl (z_pV (q0 := 0) hK hN hP hD [0] rfl rfl rfl rfl rfl) rfl hl.1 rfl (Nat.le_of_ble_eq_true rfl) dX11_comes_18 rfl) hP hD hS hA [0] [1, 2] rfl rfl rfl rfl (fun r3 u3 H locs hw3 hP hD hS => ?_)
    obtain ⟨i3, a3⟩ := u3
    dsimp only at hw3
    obtain ⟨rfl, rfl⟩ := hw3
    have hP : va_P D vwCl [(q_1, .inr (3, [.ref q_2, .ref q_7, .ref q_8, .ref q_9, .ref q_10, .ref q_11])), (q_2, .inr (6, [.int 0, .ref q_12, .ref q_13, .ref q_14, .ref q_15, .ref q_16, .int x_4, .ref q_17, .int x_5, .ref q_18, .ref q_19, .ref q_20, .ref q_21, .ref q_22, .ref q_23])), (q_0, .inr (11, [.ref q_1, .ref q_3, .ref q_4, .ref q_5, .ref q_6, .int (-1)]))] H := hP
    have hD : va_D A [(q_1, .inr (3, [.ref q_2, .ref q_7, .ref q_8, .ref q_9, .ref q_10, .ref q_11])), (q_2, .inr (6, [.int 0, .ref q_12, .ref q_13, .ref q_14, .ref q_15, .ref q_16, .int x_4, .ref q_17, .int x_5, .ref q_18, .ref q_19, .ref q_20, .ref q_21, .ref q_22, .ref q_23])), (q_0, .inr (11, [.ref q_1, .ref q_3, .ref q_4, .ref q_5, .ref q_6, .int (-1)]))] := hD
    exact z_iret C0 hr hlk rfl hK hP hD hS (0, fun _ => 0) (Or.inl ⟨rfl, rfl, c1⟩) [] rfl rfl rfl dX11_comes_21
  · refine lv_if_eq (tgt := 22) hx hb dX11_comes_13 (by decide) (fun _ => ?_) (fun c4 => absurd (by decide) c4)
    refine lv_aload_n hx hb dX11_comes_22 rfl (lv_at hl 1 rfl) ?_
    refine va_get (D := D) (ci := 11) (v := .ref q_1) (C := RX11) (T := TX11) (N := 6) hx hb hts inX11 hown hK hP 0 rfl rfl 0 (by decide) (hts _ kF_X11_12) (fun _ h9 => h9) rfl dX11_comes_23 ?_
    refine va_get (D := D) (ci := 3) (v := .ref q_2) (C := RX3) (T := TX3) (N := 6) hx hb hts inX3 hown hK hP 1 rfl rfl 0 (by decide) (hts _ kF_X11_43) (fun _ h9 => h9) rfl dX11_comes_26 ?_
    refine lv_iload_n hx hb dX11_comes_29 rfl (lv_at hl 2 rfl) ?_
    refine z_bi (wr := [(q_0, .inr (11, [.ref q_1, .ref q_3, .ref q_4, .ref q_5, .ref q_6, .int x_3])), (q_1, .inr (3, [.ref q_2, .ref q_7, .ref q_8, .ref q_9, .ref q_10, .ref q_11]))]) (z_runV (C := RX6) (As := [.int x_0]) (rest := []) C0 (c_X6_isNoChild_1 l D k q_2 q_12 q_13 q_14 q_15 q_16 q_17 q_18 q_19 q_20 q_21 q_22 q_23 x_0 x_4 x_5 _) okV_X6_isNoChild kM_X11_90 rfl (z_pV (q0 := 2) hK hN hP hD [2] rfl rfl rfl rfl rfl) rfl hl.1 rfl (Nat.le_of_ble_eq_true rfl) dX11_comes_30 rfl) hP hD hS hA [2] [0, 1] rfl rfl rfl rfl (fun r5 u5 H locs hw5 hP hD hS => ?_)
    obtain ⟨i5, a5⟩ := u5
    dsimp only at hw5
    obtain ⟨rfl, rfl⟩ := hw5
    have hP : va_P D vwCl [(q_0, .inr (11, [.ref q_1, .ref q_3, .ref q_4, .ref q_5, .ref q_6, .int x_3])), (q_1, .inr (3, [.ref q_2, .ref q_7, .ref q_8, .ref q_9, .ref q_10, .ref q_11])), (q_2, .inr (6, [.int 0, .ref q_12, .ref q_13, .ref q_14, .ref q_15, .ref q_16, .int x_4, .ref q_17, .int x_5, .ref q_18, .ref q_19, .ref q_20, .ref q_21, .ref q_22, .ref q_23]))] H := hP
    have hD : va_D A [(q_0, .inr (11, [.ref q_1, .ref q_3, .ref q_4, .ref q_5, .ref q_6, .int x_3])), (q_1, .inr (3, [.ref q_2, .ref q_7, .ref q_8, .ref q_9, .ref q_10, .ref q_11])), (q_2, .inr (6, [.int 0, .ref q_12, .ref q_13, .ref q_14, .ref q_15, .ref q_16, .int x_4, .ref q_17, .int x_5, .ref q_18, .ref q_19, .ref q_20, .ref q_21, .ref q_22, .ref q_23]))] := hD
    refine lv_if_ne (tgt := 50) hx hb dX11_comes_33 (by decide) (fun _ => ?_) (fun c6 => absurd c6 (by decide))
    refine lv_aload_n hx hb dX11_comes_50 rfl (lv_at hl 1 rfl) ?_
    refine lv_bipush (v := (-2)) hx hb dX11_comes_51 (by decide) ?_
    refine z_bi (wr := [(q_1, .inr (3, [.ref q_2, .ref q_7, .ref q_8, .ref q_9, .ref q_10, .ref q_11])), (q_2, .inr (6, [.int 0, .ref q_12, .ref q_13, .ref q_14, .ref q_15, .ref q_16, .int x_4, .ref q_17, .int x_5, .ref q_18, .ref q_19, .ref q_20, .ref q_21, .ref q_22, .ref q_23]))]) (z_runV (C := RX11) (As := [.int (-2)]) (rest := []) C0 (c_X11_answer_3 l D k q_0 q_1 q_3 q_4 q_5 q_6 x_3 _) okV_X11_answer kM_X11_55 rfl (z_pV (q0 := 0) hK hN hP hD [0] rfl rfl rfl rfl rfl) rfl hl.1 rfl (Nat.le_of_ble_eq_true rfl) dX11_comes_53 rfl) hP hD hS hA [0] [1, 2] rfl rfl rfl rfl (fun r7 u7 H locs hw7 hP hD hS => ?_)
    obtain ⟨i7, a7⟩ := u7
    dsimp only at hw7
    obtain ⟨rfl, rfl⟩ := hw7
    have hP : va_P D vwCl [(q_1, .inr (3, [.ref q_2, .ref q_7, .ref q_8, .ref q_9, .ref q_10, .ref q_11])), (q_2, .inr (6, [.int 0, .ref q_12, .ref q_13, .ref q_14, .ref q_15, .ref q_16, .int x_4, .ref q_17, .int x_5, .ref q_18, .ref q_19, .ref q_20, .ref q_21, .ref q_22, .ref q_23])), (q_0, .inr (11, [.ref q_1, .ref q_3, .ref q_4, .ref q_5, .ref q_6, .int (-2)]))] H := hP
    have hD : va_D A [(q_1, .inr (3, [.ref q_2, .ref q_7, .ref q_8, .ref q_9, .ref q_10, .ref q_11])), (q_2, .inr (6, [.int 0, .ref q_12, .ref q_13, .ref q_14, .ref q_15, .ref q_16, .int x_4, .ref q_17, .int x_5, .ref q_18, .ref q_19, .ref q_20, .ref q_21, .ref q_22, .ref q_23])), (q_0, .inr (11, [.ref q_1, .ref q_3, .ref q_4, .ref q_5, .ref q_6, .int (-2)]))] := hD
    exact z_iret C0 hr hlk rfl hK hP hD hS (1, fun _ => 0) (Or.inr (⟨rfl, rfl, c1⟩)) [] rfl rfl rfl dX11_comes_56

set_option maxHeartbeats 4000000 in
set_option maxRecDepth 100000 in
theorem c_X12_isChild_1 (l : Launch) (D : va_G) (k : Nat → ClassId) (q_0 : Nat) (q_1 : Nat) (q_2 : Nat) (q_3 : Nat) (q_4 : Nat) (q_5 : Nat) (q_6 : Nat) (q_7 : Nat) (q_8 : Nat) (q_9 : Nat) (q_10 : Nat) (q_11 : Nat) (q_12 : Nat) (q_13 : Nat) (q_14 : Nat) (q_15 : Nat) (q_16 : Nat) (q_17 : Nat) (q_18 : Nat) (q_19 : Nat) (q_20 : Nat) (q_21 : Nat) (q_22 : Nat) (q_23 : Nat) (q_24 : Nat) (q_25 : Nat) (x_0 : Int32) (x_1 : Int32) (x_2 : Int32) (x_3 : Int32) (x_4 : Int32) (x_5 : Int32) (x_6 : Int32) (x_7 : Int32) (g_8 : Int64) (x_9 : Int32) (x_10 : Int32) (x_11 : Int32) (x_12 : Int32) (x_13 : Int32) (x_14 : Int32) (x_15 : Int32) (x_16 : Int32) (g_17 : Int64) (g_18 : Int64) (x_19 : Int32) (x_20 : Int32) (x_21 : Int32) (x_22 : Int32) (x_23 : Int32) (x_24 : Int32) (x_25 : Int32) (x_26 : Int32) (x_27 : Int32) (x_28 : Int32) (x_29 : Int32) (x_30 : Int32) (x_31 : Int32) : zMi l yX12_isChild cX12_isChild 2 (some .boolean) ({ frames := 1, cells := 0, slots := 0, locals := 25 }) D k [.ref q_0, .int x_0] [(q_0, .inr (12, [.int x_1, .int x_2, .ref q_1, .ref q_2, .ref q_3, .int x_3, .ref q_4, .ref q_5, .ref q_6, .ref q_7, .ref q_8, .int x_4, .int x_5, .int x_6, .int x_7, .long g_8, .int x_9, .int x_10, .int x_11, .ref q_9, .int x_12, .ref q_10, .ref q_11, .int x_13, .ref q_12, .ref q_13, .int x_14, .int x_15, .ref q_14, .ref q_15, .ref q_16, .ref q_17, .int x_16, .long g_17, .long g_18, .int x_19, .int x_20, .int x_21, .int x_22, .ref q_18, .ref q_19, .int x_23, .int x_24, .int x_25, .int x_26, .ref q_20, .ref q_21, .int x_27, .int x_28, .ref q_22, .ref q_23, .ref q_24, .ref q_25, .int x_29, .int x_30, .int x_31])), (q_1, .inl (k 0, 27101, .inl (fun _ => 0)))] (fun r u => u.1 = 0 ∧ r = 0) (fun u => [(q_0, .inr (12, [.int x_1, .int x_2, .ref q_1, .ref q_2, .ref q_3, .int x_3, .ref q_4, .ref q_5, .ref q_6, .ref q_7, .ref q_8, .int x_4, .int x_5, .int x_6, .int x_7, .long g_8, .int x_9, .int x_10, .int x_11, .ref q_9, .int x_12, .ref q_10, .ref q_11, .int x_13, .ref q_12, .ref q_13, .int x_14, .int x_15, .ref q_14, .ref q_15, .ref q_16, .ref q_17, .int x_16, .long g_17, .long g_18, .int x_19, .int x_20, .int x_21, .int x_22, .ref q_18, .ref q_19, .int x_23, .int x_24, .int x_25, .int x_26, .ref q_20, .ref q_21, .int x_27, .int x_28, .ref q_22, .ref q_23, .ref q_24, .ref q_25, .int x_29, .int x_30, .int x_31])), (q_1, .inl (k 0, 27101, .inl (fun _ => 0)))]) := by
  refine zMi_of (own := RX12) (by decide +kernel) rfl (Nat.le_of_ble_eq_true rfl) ?_
  intro p e s m args below meth c A ls C0 hr hlk hin hP hD hS hA hK hN hl
  have hx := C0.1
  have hb := C0.2.1
  have hml := C0.2.2.1
  have hown := C0.2.2.2.1
  have hts := C0.2.2.2.2
  have hl : lv_has ls 2 [(0, .ref q_0), (1, .int x_0)] := hl
  have hP : va_P D vwCl [(q_0, .inr (12, [.int x_1, .int x_2, .ref q_1, .ref q_2, .ref q_3, .int x_3, .ref q_4, .ref q_5, .ref q_6, .ref q_7, .ref q_8, .int x_4, .int x_5, .int x_6, .int x_7, .long g_8, .int x_9, .int x_10, .int x_11, .ref q_9, .int x_12, .ref q_10, .ref q_11, .int x_13, .ref q_12, .ref q_13, .int x_14, .int x_15, .ref q_14, .ref q_15, .ref q_16, .ref q_17, .int x_16, .long g_17, .long g_18, .int x_19, .int x_20, .int x_21, .int x_22, .ref q_18, .ref q_19, .int x_23, .int x_24, .int x_25, .int x_26, .ref q_20, .ref q_21, .int x_27, .int x_28, .ref q_22, .ref q_23, .ref q_24, .ref q_25, .int x_29, .int x_30, .int x_31])), (q_1, .inl (k 0, 27101, .inl (fun _ => 0)))] s.heap := hP
  refine lv_iload_n hx hb dX12_isChild_0 rfl (lv_at hl 1 rfl) ?_
  refine lv_i2l (v := (Int32.toInt64 x_0)) hx hb dX12_isChild_1 rfl ?_
  refine lv_lconst (v := 0) hx hb dX12_isChild_2 (by decide) ?_
  refine lv_aload_n hx hb dX12_isChild_3 rfl (lv_at hl 0 rfl) ?_
  refine va_get (D := D) (ci := 12) (v := .ref q_1) (C := RX12) (T := TX12) (N := 56) hx hb hts inX12 hown hK hP 0 rfl rfl 2 (by decide) (hts _ kF_X12_7) (fun _ h9 => h9) rfl dX12_isChild_4 ?_
  refine lv_iconst (v := 0) hx hb dX12_isChild_7 (by decide) ?_
  refine va_iald hx hb hK hP 1 0 rfl rfl (by unfold vp_in; decide) dX12_isChild_8 ?_
  refine lv_toc (v := 0) rfl ?_
  refine lv_i2l (v := 0) hx hb dX12_isChild_9 (by decide) ?_
  refine lv_lconst (v := 1) hx hb dX12_isChild_10 (by decide) ?_
  refine lv_lsub hx hb dX12_isChild_11 ?_
  refine lv_tocl (v := (-1)) (by decide) ?_
  refine z_bi0 (z_runS (As := [.long (Int32.toInt64 x_0), .long 0, .long (-1)]) (rest := []) C0 (c_X12_in_1 l D k (Int32.toInt64 x_0) 0 (-1) _) okS_X12_in kM_X12_100 rfl (z_p0 hK hN) rfl hl.1 rfl (Nat.le_of_ble_eq_true rfl) dX12_isChild_12 rfl) hP hS hA (fun r1 u1 H locs hw1 hP hS => ?_)
  obtain ⟨i1, a1⟩ := u1
  dsimp only at hw1
  rcases hw1 with ⟨rfl, rfl, c1⟩ | ⟨rfl, rfl, c1⟩
  · exact z_iret C0 hr hlk rfl hK hP hD hS (0, fun _ => 0) ⟨rfl, rfl⟩ [0, 1] rfl rfl rfl dX12_isChild_15
  · exact (show False by have bA0 := Int32.le_toInt x_0; have bB0 := Int32.toInt_lt x_0; revert c1; simp only [vp_in_iff, Int32.lt_iff_toInt_lt, Int32.le_iff_toInt_le, Int64.lt_iff_toInt_lt, Int64.le_iff_toInt_le, Int32.toInt_toInt64, ← Int32.toInt_inj, ← Int64.toInt_inj, Int32.reduceToInt, Int64.reduceToInt] <;> omega).elim

set_option maxHeartbeats 4000000 in
set_option maxRecDepth 100000 in
theorem c_X12_comes_1 (l : Launch) (D : va_G) (k : Nat → ClassId) (q_0 : Nat) (q_1 : Nat) (q_2 : Nat) (q_3 : Nat) (q_4 : Nat) (q_5 : Nat) (q_6 : Nat) (q_7 : Nat) (q_8 : Nat) (q_9 : Nat) (q_10 : Nat) (q_11 : Nat) (q_12 : Nat) (q_13 : Nat) (q_14 : Nat) (q_15 : Nat) (q_16 : Nat) (q_17 : Nat) (q_18 : Nat) (q_19 : Nat) (q_20 : Nat) (q_21 : Nat) (q_22 : Nat) (q_23 : Nat) (q_24 : Nat) (q_25 : Nat) (x_0 : Int32) (x_1 : Int32) (x_2 : Int32) (x_3 : Int32) (x_4 : Int32) (x_5 : Int32) (x_6 : Int32) (x_7 : Int32) (x_8 : Int32) (x_9 : Int32) (g_10 : Int64) (x_11 : Int32) (x_12 : Int32) (x_13 : Int32) (x_14 : Int32) (x_15 : Int32) (x_16 : Int32) (x_17 : Int32) (x_18 : Int32) (g_19 : Int64) (g_20 : Int64) (x_21 : Int32) (x_22 : Int32) (x_23 : Int32) (x_24 : Int32) (x_25 : Int32) (x_26 : Int32) (x_27 : Int32) (x_28 : Int32) (x_29 : Int32) (x_30 : Int32) (x_31 : Int32) (x_32 : Int32) (x_33 : Int32) : zMi l yX12_comes cX12_comes 6 (some .int) ({ frames := 2, cells := 0, slots := 0, locals := 46 }) D k [.ref q_0, .int x_0, .int x_1, .int x_2] [(q_0, .inr (12, [.int x_3, .int x_4, .ref q_1, .ref q_2, .ref q_3, .int x_5, .ref q_4, .ref q_5, .ref q_6, .ref q_7, .ref q_8, .int x_6, .int x_7, .int x_8, .int x_9, .long g_10, .int x_11, .int x_12, .int x_13, .ref q_9, .int x_14, .ref q_10, .ref q_11, .int x_15, .ref q_12, .ref q_13, .int x_16, .int x_17, .ref q_14, .ref q_15, .ref q_16, .ref q_17, .int x_18, .long g_19, .long g_20, .int x_21, .int x_22, .int x_23, .int x_24, .ref q_18, .ref q_19, .int x_25, .int x_26, .int x_27, .int x_28, .ref q_20, .ref q_21, .int x_29, .int x_30, .ref q_22, .ref q_23, .ref q_24, .ref q_25, .int x_31, .int x_32, .int x_33])), (q_1, .inl (k 0, 27101, .inl (fun _ => 0)))] (fun r u => (u.1 = 0 ∧ r = (-1) ∧ (((((Int32.toInt64 x_2) < 0) ∨ (¬ (Int32.toInt64 x_2) < 0 ∧ (399 : Int64) < (Int32.toInt64 x_2)))))) ∨ (u.1 = 1 ∧ r = (-2) ∧ ((((¬ (Int32.toInt64 x_2) < 0 ∧ ¬ (399 : Int64) < (Int32.toInt64 x_2))))))) (fun u => []) := by
  refine zMi_of (own := RX12) (by decide +kernel) rfl (Nat.le_of_ble_eq_true rfl) ?_
  intro p e s m args below meth c A ls C0 hr hlk hin hP hD hS hA hK hN hl
  have hx := C0.1
  have hb := C0.2.1
  have hml := C0.2.2.1
  have hown := C0.2.2.2.1
  have hts := C0.2.2.2.2
  have hl : lv_has ls 6 [(0, .ref q_0), (1, .int x_0), (2, .int x_1), (3, .int x_2)] := hl
  have hP : va_P D vwCl [(q_0, .inr (12, [.int x_3, .int x_4, .ref q_1, .ref q_2, .ref q_3, .int x_5, .ref q_4, .ref q_5, .ref q_6, .ref q_7, .ref q_8, .int x_6, .int x_7, .int x_8, .int x_9, .long g_10, .int x_11, .int x_12, .int x_13, .ref q_9, .int x_14, .ref q_10, .ref q_11, .int x_15, .ref q_12, .ref q_13, .int x_16, .int x_17, .ref q_14, .ref q_15, .ref q_16, .ref q_17, .int x_18, .long g_19, .long g_20, .int x_21, .int x_22, .int x_23, .int x_24, .ref q_18, .ref q_19, .int x_25, .int x_26, .int x_27, .int x_28, .ref q_20, .ref q_21, .int x_29, .int x_30, .ref q_22, .ref q_23, .ref q_24, .ref q_25, .int x_31, .int x_32, .int x_33])), (q_1, .inl (k 0, 27101, .inl (fun _ => 0)))] s.heap := hP
  refine lv_aload_n hx hb dX12_comes_0 rfl (lv_at hl 0 rfl) ?_
  refine lv_iconst (v := 0) hx hb dX12_comes_1 (by decide) ?_
  refine va_put (D := D) (ci := 12) (v := .int 0) (ty := .int) (C := RX12) (T := TX12) (N := 56) hx hb hts inX12 tyX12 tyX12_ok nmX12 hown hK hP hD hS 0 rfl rfl 0 (by decide) (hts _ kF_X12_92) (fun _ h9 => h9) rfl (by decide +kernel) rfl rfl (Nat.le_of_ble_eq_true rfl) dX12_comes_2 (fun H locs hP hD hS => ?_)
  have hP : va_P D vwCl [(q_0, .inr (12, [.int 0, .int x_4, .ref q_1, .ref q_2, .ref q_3, .int x_5, .ref q_4, .ref q_5, .ref q_6, .ref q_7, .ref q_8, .int x_6, .int x_7, .int x_8, .int x_9, .long g_10, .int x_11, .int x_12, .int x_13, .ref q_9, .int x_14, .ref q_10, .ref q_11, .int x_15, .ref q_12, .ref q_13, .int x_16, .int x_17, .ref q_14, .ref q_15, .ref q_16, .ref q_17, .int x_18, .long g_19, .long g_20, .int x_21, .int x_22, .int x_23, .int x_24, .ref q_18, .ref q_19, .int x_25, .int x_26, .int x_27, .int x_28, .ref q_20, .ref q_21, .int x_29, .int x_30, .ref q_22, .ref q_23, .ref q_24, .ref q_25, .int x_31, .int x_32, .int x_33])), (q_1, .inl (k 0, 27101, .inl (fun _ => 0)))] H := hP
  have hD : va_D A [(q_0, .inr (12, [.int 0, .int x_4, .ref q_1, .ref q_2, .ref q_3, .int x_5, .ref q_4, .ref q_5, .ref q_6, .ref q_7, .ref q_8, .int x_6, .int x_7, .int x_8, .int x_9, .long g_10, .int x_11, .int x_12, .int x_13, .ref q_9, .int x_14, .ref q_10, .ref q_11, .int x_15, .ref q_12, .ref q_13, .int x_16, .int x_17, .ref q_14, .ref q_15, .ref q_16, .ref q_17, .int x_18, .long g_19, .long g_20, .int x_21, .int x_22, .int x_23, .int x_24, .ref q_18, .ref q_19, .int x_25, .int x_26, .int x_27, .int x_28, .ref q_20, .ref q_21, .int x_29, .int x_30, .ref q_22, .ref q_23, .ref q_24, .ref q_25, .int x_31, .int x_32, .int x_33])), (q_1, .inl (k 0, 27101, .inl (fun _ => 0)))] := hD
  refine lv_iload_n hx hb dX12_comes_5 rfl (lv_at hl 3 rfl) ?_
  refine z_bi0 (z_runS (As := [.int x_2]) (rest := []) C0 (c_X12_isDay_1 l D k x_2 _) okS_X12_isDay kM_X12_127 rfl (z_p0 hK hN) rfl hl.1 rfl (Nat.le_of_ble_eq_true rfl) dX12_comes_6 rfl) hP hS hA (fun r1 u1 H locs hw1 hP hS => ?_)
  obtain ⟨i1, a1⟩ := u1
  dsimp only at hw1
  rcases hw1 with ⟨rfl, rfl, c1⟩ | ⟨rfl, rfl, c1⟩
  · refine lv_if_ne (tgt := 18) hx hb dX12_comes_9 (by decide) (fun c2 => absurd (by decide) c2) (fun _ => ?_)
    refine lv_aload_n hx hb dX12_comes_12 rfl (lv_at hl 0 rfl) ?_
    refine lv_iconst (v := (-1)) hx hb dX12_comes_13 (by decide) ?_
    refine z_bi (wr := [(q_1, .inl (k 0, 27101, .inl (fun _ => 0)))]) (z_runV (C := RX12) (As := [.int (-1)]) (rest := []) C0 (c_X12_told_1 l D k q_0 q_1 q_2 q_3 q_4 q_5 q_6 q_7 q_8 q_9 q_10 q_11 q_12 q_13 q_14 q_15 q_16 q_17 q_18 q_19 q_20 q_21 q_22 q_23 q_24 q_25 0 x_4 x_5 x_6 x_7 x_8 x_9 g_10 x_11 x_12 x_13 x_14 x_15 x_16 x_17 x_18 g_19 g_20 x_21 x_22 x_23 x_24 x_25 x_26 x_27 x_28 x_29 x_30 x_31 x_32 x_33 _) okV_X12_told kM_X12_106 rfl (z_pV (q0 := 0) hK hN hP hD [0] rfl rfl rfl rfl rfl) rfl hl.1 rfl (Nat.le_of_ble_eq_true rfl) dX12_comes_14 rfl) hP hD hS hA [0] [1] rfl rfl rfl rfl (fun r3 u3 H locs hw3 hP hD hS => ?_)
    obtain ⟨i3, a3⟩ := u3
    dsimp only at hw3
    obtain ⟨rfl, rfl⟩ := hw3
    have hP : va_P D vwCl [(q_1, .inl (k 0, 27101, .inl (fun _ => 0))), (q_0, .inr (12, [.int 0, .int (-1), .ref q_1, .ref q_2, .ref q_3, .int x_5, .ref q_4, .ref q_5, .ref q_6, .ref q_7, .ref q_8, .int x_6, .int x_7, .int x_8, .int x_9, .long g_10, .int x_11, .int x_12, .int x_13, .ref q_9, .int x_14, .ref q_10, .ref q_11, .int x_15, .ref q_12, .ref q_13, .int x_16, .int x_17, .ref q_14, .ref q_15, .ref q_16, .ref q_17, .int x_18, .long g_19, .long g_20, .int x_21, .int x_22, .int x_23, .int x_24, .ref q_18, .ref q_19, .int x_25, .int x_26, .int x_27, .int x_28, .ref q_20, .ref q_21, .int x_29, .int x_30, .ref q_22, .ref q_23, .ref q_24, .ref q_25, .int x_31, .int x_32, .int x_33]))] H := hP
    have hD : va_D A [(q_1, .inl (k 0, 27101, .inl (fun _ => 0))), (q_0, .inr (12, [.int 0, .int (-1), .ref q_1, .ref q_2, .ref q_3, .int x_5, .ref q_4, .ref q_5, .ref q_6, .ref q_7, .ref q_8, .int x_6, .int x_7, .int x_8, .int x_9, .long g_10, .int x_11, .int x_12, .int x_13, .ref q_9, .int x_14, .ref q_10, .ref q_11, .int x_15, .ref q_12, .ref q_13, .int x_16, .int x_17, .ref q_14, .ref q_15, .ref q_16, .ref q_17, .int x_18, .long g_19, .long g_20, .int x_21, .int x_22, .int x_23, .int x_24, .ref q_18, .ref q_19, .int x_25, .int x_26, .int x_27, .int x_28, .ref q_20, .ref q_21, .int x_29, .int x_30, .ref q_22, .ref q_23, .ref q_24, .ref q_25, .int x_31, .int x_32, .int x_33]))] := hD
    exact z_iret C0 hr hlk rfl hK hP hD hS (0, fun _ => 0) (Or.inl ⟨rfl, rfl, c1⟩) [] rfl rfl rfl dX12_comes_17
  · refine lv_if_ne (tgt := 18) hx hb dX12_comes_9 (by decide) (fun _ => ?_) (fun c4 => absurd c4 (by decide))
    refine lv_aload_n hx hb dX12_comes_18 rfl (lv_at hl 0 rfl) ?_
    refine lv_iload_n hx hb dX12_comes_19 rfl (lv_at hl 1 rfl) ?_
    refine z_bi (wr := []) (z_runV (C := RX12) (As := [.int x_0]) (rest := []) C0 (c_X12_isChild_1 l D k q_0 q_1 q_2 q_3 q_4 q_5 q_6 q_7 q_8 q_9 q_10 q_11 q_12 q_13 q_14 q_15 q_16 q_17 q_18 q_19 q_20 q_21 q_22 q_23 q_24 q_25 x_0 0 x_4 x_5 x_6 x_7 x_8 x_9 g_10 x_11 x_12 x_13 x_14 x_15 x_16 x_17 x_18 g_19 g_20 x_21 x_22 x_23 x_24 x_25 x_26 x_27 x_28 x_29 x_30 x_31 x_32 x_33 _) okV_X12_isChild kM_X12_138 rfl (z_pV (q0 := 0) hK hN hP hD [0, 1] rfl rfl rfl rfl rfl) rfl hl.1 rfl (Nat.le_of_ble_eq_true rfl) dX12_comes_20 rfl) hP hD hS hA [0, 1] [] rfl rfl rfl rfl (fun r5 u5 H locs hw5 hP hD hS => ?_)
    obtain ⟨i5, a5⟩ := u5
    dsimp only at hw5
    obtain ⟨rfl, rfl⟩ := hw5
    have hP : va_P D vwCl [(q_0, .inr (12, [.int 0, .int x_4, .ref q_1, .ref q_2, .ref q_3, .int x_5, .ref q_4, .ref q_5, .ref q_6, .ref q_7, .ref q_8, .int x_6, .int x_7, .int x_8, .int x_9, .long g_10, .int x_11, .int x_12, .int x_13, .ref q_9, .int x_14, .ref q_10, .ref q_11, .int x_15, .ref q_12, .ref q_13, .int x_16, .int x_17, .ref q_14, .ref q_15, .ref q_16, .ref q_17, .int x_18, .long g_19, .long g_20, .int x_21, .int x_22, .int x_23, .int x_24, .ref q_18, .ref q_19, .int x_25, .int x_26, .int x_27, .int x_28, .ref q_20, .ref q_21, .int x_29, .int x_30, .ref q_22, .ref q_23, .ref q_24, .ref q_25, .int x_31, .int x_32, .int x_33])), (q_1, .inl (k 0, 27101, .inl (fun _ => 0)))] H := hP
    have hD : va_D A [(q_0, .inr (12, [.int 0, .int x_4, .ref q_1, .ref q_2, .ref q_3, .int x_5, .ref q_4, .ref q_5, .ref q_6, .ref q_7, .ref q_8, .int x_6, .int x_7, .int x_8, .int x_9, .long g_10, .int x_11, .int x_12, .int x_13, .ref q_9, .int x_14, .ref q_10, .ref q_11, .int x_15, .ref q_12, .ref q_13, .int x_16, .int x_17, .ref q_14, .ref q_15, .ref q_16, .ref q_17, .int x_18, .long g_19, .long g_20, .int x_21, .int x_22, .int x_23, .int x_24, .ref q_18, .ref q_19, .int x_25, .int x_26, .int x_27, .int x_28, .ref q_20, .ref q_21, .int x_29, .int x_30, .ref q_22, .ref q_23, .ref q_24, .ref q_25, .int x_31, .int x_32, .int x_33])), (q_1, .inl (k 0, 27101, .inl (fun _ => 0)))] := hD
    refine lv_if_eq (tgt := 34) hx hb dX12_comes_23 (by decide) (fun _ => ?_) (fun c6 => absurd (by decide) c6)
    refine lv_aload_n hx hb dX12_comes_34 rfl (lv_at hl 0 rfl) ?_
    refine lv_bipush (v := (-2)) hx hb dX12_comes_35 (by decide) ?_
    refine z_bi (wr := [(q_1, .inl (k 0, 27101, .inl (fun _ => 0)))]) (z_runV (C := RX12) (As := [.int (-2)]) (rest := []) C0 (c_X12_told_3 l D k q_0 q_1 q_2 q_3 q_4 q_5 q_6 q_7 q_8 q_9 q_10 q_11 q_12 q_13 q_14 q_15 q_16 q_17 q_18 q_19 q_20 q_21 q_22 q_23 q_24 q_25 0 x_4 x_5 x_6 x_7 x_8 x_9 g_10 x_11 x_12 x_13 x_14 x_15 x_16 x_17 x_18 g_19 g_20 x_21 x_22 x_23 x_24 x_25 x_26 x_27 x_28 x_29 x_30 x_31 x_32 x_33 _) okV_X12_told kM_X12_106 rfl (z_pV (q0 := 0) hK hN hP hD [0] rfl rfl rfl rfl rfl) rfl hl.1 rfl (Nat.le_of_ble_eq_true rfl) dX12_comes_37 rfl) hP hD hS hA [0] [1] rfl rfl rfl rfl (fun r7 u7 H locs hw7 hP hD hS => ?_)
    obtain ⟨i7, a7⟩ := u7
    dsimp only at hw7
    obtain ⟨rfl, rfl⟩ := hw7
    have hP : va_P D vwCl [(q_1, .inl (k 0, 27101, .inl (fun _ => 0))), (q_0, .inr (12, [.int 0, .int (-2), .ref q_1, .ref q_2, .ref q_3, .int x_5, .ref q_4, .ref q_5, .ref q_6, .ref q_7, .ref q_8, .int x_6, .int x_7, .int x_8, .int x_9, .long g_10, .int x_11, .int x_12, .int x_13, .ref q_9, .int x_14, .ref q_10, .ref q_11, .int x_15, .ref q_12, .ref q_13, .int x_16, .int x_17, .ref q_14, .ref q_15, .ref q_16, .ref q_17, .int x_18, .long g_19, .long g_20, .int x_21, .int x_22, .int x_23, .int x_24, .ref q_18, .ref q_19, .int x_25, .int x_26, .int x_27, .int x_28, .ref q_20, .ref q_21, .int x_29, .int x_30, .ref q_22, .ref q_23, .ref q_24, .ref q_25, .int x_31, .int x_32, .int x_33]))] H := hP
    have hD : va_D A [(q_1, .inl (k 0, 27101, .inl (fun _ => 0))), (q_0, .inr (12, [.int 0, .int (-2), .ref q_1, .ref q_2, .ref q_3, .int x_5, .ref q_4, .ref q_5, .ref q_6, .ref q_7, .ref q_8, .int x_6, .int x_7, .int x_8, .int x_9, .long g_10, .int x_11, .int x_12, .int x_13, .ref q_9, .int x_14, .ref q_10, .ref q_11, .int x_15, .ref q_12, .ref q_13, .int x_16, .int x_17, .ref q_14, .ref q_15, .ref q_16, .ref q_17, .int x_18, .long g_19, .long g_20, .int x_21, .int x_22, .int x_23, .int x_24, .ref q_18, .ref q_19, .int x_25, .int x_26, .int x_27, .int x_28, .ref q_20, .ref q_21, .int x_29, .int x_30, .ref q_22, .ref q_23, .ref q_24, .ref q_25, .int x_31, .int x_32, .int x_33]))] := hD
    exact z_iret C0 hr hlk rfl hK hP hD hS (1, fun _ => 0) (Or.inr (⟨rfl, rfl, c1⟩)) [] rfl rfl rfl dX12_comes_40

set_option maxHeartbeats 4000000 in
set_option maxRecDepth 100000 in
theorem c_X11_goes_1 (l : Launch) (D : va_G) (k : Nat → ClassId) (q_0 : Nat) (q_1 : Nat) (q_2 : Nat) (q_3 : Nat) (q_4 : Nat) (q_5 : Nat) (q_6 : Nat) (q_7 : Nat) (q_8 : Nat) (q_9 : Nat) (q_10 : Nat) (q_11 : Nat) (q_12 : Nat) (q_13 : Nat) (q_14 : Nat) (q_15 : Nat) (q_16 : Nat) (q_17 : Nat) (q_18 : Nat) (q_19 : Nat) (q_20 : Nat) (q_21 : Nat) (q_22 : Nat) (q_23 : Nat) (x_0 : Int32) (x_1 : Int32) (x_2 : Int32) (x_3 : Int32) (x_4 : Int32) (x_5 : Int32) : zMi l yX11_goes cX11_goes 7 (some .int) ({ frames := 1, cells := 0, slots := 0, locals := 21 }) D k [.ref q_0, .int x_0, .int x_1, .int x_2, .int x_3] [(q_0, .inr (11, [.ref q_1, .ref q_3, .ref q_4, .ref q_5, .ref q_6, .int x_4])), (q_1, .inr (3, [.ref q_2, .ref q_7, .ref q_8, .ref q_9, .ref q_10, .ref q_11])), (q_2, .inr (6, [.int 0, .ref q_12, .ref q_13, .ref q_14, .ref q_15, .ref q_16, .int 0, .ref q_17, .int x_5, .ref q_18, .ref q_19, .ref q_20, .ref q_21, .ref q_22, .ref q_23]))] (fun r u => (u.1 = 0 ∧ r = (-1) ∧ ((((x_2 < 0) ∨ (¬ x_2 < 0 ∧ ¬ x_2 < 400))) ∨ (((¬ x_2 < 0 ∧ x_2 < 400)) ∧ ¬ x_3 = (-1)))) ∨ (u.1 = 1 ∧ r = (-2) ∧ ((((¬ x_2 < 0 ∧ x_2 < 400)) ∧ x_3 = (-1))))) (fun u => []) := by
  refine zMi_of (own := RX11) (by decide +kernel) rfl (Nat.le_of_ble_eq_true rfl) ?_
  intro p e s m args below meth c A ls C0 hr hlk hin hP hD hS hA hK hN hl
  have hx := C0.1
  have hb := C0.2.1
  have hml := C0.2.2.1
  have hown := C0.2.2.2.1
  have hts := C0.2.2.2.2
  have hl : lv_has ls 7 [(0, .ref q_0), (1, .int x_0), (2, .int x_1), (3, .int x_2), (4, .int x_3)] := hl
  have hP : va_P D vwCl [(q_0, .inr (11, [.ref q_1, .ref q_3, .ref q_4, .ref q_5, .ref q_6, .int x_4])), (q_1, .inr (3, [.ref q_2, .ref q_7, .ref q_8, .ref q_9, .ref q_10, .ref q_11])), (q_2, .inr (6, [.int 0, .ref q_12, .ref q_13, .ref q_14, .ref q_15, .ref q_16, .int 0, .ref q_17, .int x_5, .ref q_18, .ref q_19, .ref q_20, .ref q_21, .ref q_22, .ref q_23]))] s.heap := hP
  refine lv_aload_n hx hb dX11_goes_0 rfl (lv_at hl 0 rfl) ?_
  refine va_get (D := D) (ci := 11) (v := .ref q_1) (C := RX11) (T := TX11) (N := 6) hx hb hts inX11 hown hK hP 0 rfl rfl 0 (by decide) (hts _ kF_X11_12) (fun _ h9 => h9) rfl dX11_goes_1 ?_
  refine va_get (D := D) (ci := 3) (v := .ref q_7) (C := RX3) (T := TX3) (N := 6) hx hb hts inX3 hown hK hP 1 rfl rfl 1 (by decide) (hts _ kF_X11_86) (fun _ h9 => h9) rfl dX11_goes_4 ?_
  refine lv_astore (lv' := [(5, .ref q_7), (0, .ref q_0), (1, .int x_0), (2, .int x_1), (3, .int x_2), (4, .int x_3)]) hx hb dX11_goes_7 hl (by decide) rfl (fun ls hl => ?_)
  refine lv_iload_n hx hb dX11_goes_9 rfl (lv_at hl 4 rfl) ?_
  refine z_bi0 (z_runS (As := [.int x_2]) (rest := []) C0 (c_X11_isNoDay_1 l D k x_2 _) okS_X11_isNoDay kM_X11_72 rfl (z_p0 hK hN) rfl hl.1 rfl (Nat.le_of_ble_eq_true rfl) dX11_goes_10 rfl) hP hS hA (fun r1 u1 H locs hw1 hP hS => ?_)
  obtain ⟨i1, a1⟩ := u1
  dsimp only at hw1
  rcases hw1 with ⟨rfl, rfl, c1⟩ | ⟨rfl, rfl, c1⟩
  · refine lv_if_ne (tgt := 37) hx hb dX11_goes_13 (by decide) (fun _ => ?_) (fun c2 => absurd c2 (by decide))
    refine lv_aload_n hx hb dX11_goes_37 rfl (lv_at hl 1 rfl) ?_
    refine lv_iconst (v := (-1)) hx hb dX11_goes_38 (by decide) ?_
    refine z_bi (wr := [(q_1, .inr (3, [.ref q_2, .ref q_7, .ref q_8, .ref q_9, .ref q_10, .ref q_11])), (q_2, .inr (6, [.int 0, .ref q_12, .ref q_13, .ref q_14, .ref q_15, .ref q_16, .int 0, .ref q_17, .int x_5, .ref q_18, .ref q_19, .ref q_20, .ref q_21, .ref q_22, .ref q_23]))]) (z_runV (C := RX11) (As := [.int (-1)]) (rest := []) C0 (c_X11_answer_1 l D k q_0 q_1 q_3 q_4 q_5 q_6 x_4 _) okV_X11_answer kM_X11_55 rfl (z_pV (q0 := 0) hK hN hP hD [0] rfl rfl rfl rfl rfl) rfl hl.1 rfl (Nat.le_of_ble_eq_true rfl) dX11_goes_39 rfl) hP hD hS hA [0] [1, 2] rfl rfl rfl rfl (fun r3 u3 H locs hw3 hP hD hS => ?_)
    obtain ⟨i3, a3⟩ := u3
    dsimp only at hw3
    obtain ⟨rfl, rfl⟩ := hw3
    have hP : va_P D vwCl [(q_1, .inr (3, [.ref q_2, .ref q_7, .ref q_8, .ref q_9, .ref q_10, .ref q_11])), (q_2, .inr (6, [.int 0, .ref q_12, .ref q_13, .ref q_14, .ref q_15, .ref q_16, .int 0, .ref q_17, .int x_5, .ref q_18, .ref q_19, .ref q_20, .ref q_21, .ref q_22, .ref q_23])), (q_0, .inr (11, [.ref q_1, .ref q_3, .ref q_4, .ref q_5, .ref q_6, .int (-1)]))] H := hP
    have hD : va_D A [(q_1, .inr (3, [.ref q_2, .ref q_7, .ref q_8, .ref q_9, .ref q_10, .ref q_11])), (q_2, .inr (6, [.int 0, .ref q_12, .ref q_13, .ref q_14, .ref q_15, .ref q_16, .int 0, .ref q_17, .int x_5, .ref q_18, .ref q_19, .ref q_20, .ref q_21, .ref q_22, .ref q_23])), (q_0, .inr (11, [.ref q_1, .ref q_3, .ref q_4, .ref q_5, .ref q_6, .int (-1)]))] := hD
    exact z_iret C0 hr hlk rfl hK hP hD hS (0, fun _ => 0) (Or.inl ⟨rfl, rfl, (Or.inl c1)⟩) [] rfl rfl rfl dX11_goes_42
  · refine lv_if_ne (tgt := 37) hx hb dX11_goes_13 (by decide) (fun c4 => absurd (by decide) c4) (fun _ => ?_)
    refine lv_iload hx hb dX11_goes_16 (lv_at hl 5 rfl) ?_
    refine lv_iconst (v := (-1)) hx hb dX11_goes_18 (by decide) ?_
    refine lv_icmp_eq (tgt := 43) hx hb dX11_goes_19 (by decide) (fun c5 => ?_) (fun c5 => ?_)
    · refine lv_aload_n hx hb dX11_goes_43 rfl (lv_at hl 1 rfl) ?_
      refine va_get (D := D) (ci := 11) (v := .ref q_1) (C := RX11) (T := TX11) (N := 6) hx hb hts inX11 hown hK hP 0 rfl rfl 0 (by decide) (hts _ kF_X11_12) (fun _ h9 => h9) rfl dX11_goes_44 ?_
      refine va_get (D := D) (ci := 3) (v := .ref q_2) (C := RX3) (T := TX3) (N := 6) hx hb hts inX3 hown hK hP 1 rfl rfl 0 (by decide) (hts _ kF_X11_43) (fun _ h9 => h9) rfl dX11_goes_47 ?_
      refine lv_iload_n hx hb dX11_goes_50 rfl (lv_at hl 2 rfl) ?_
      refine z_bi (wr := [(q_0, .inr (11, [.ref q_1, .ref q_3, .ref q_4, .ref q_5, .ref q_6, .int x_4])), (q_1, .inr (3, [.ref q_2, .ref q_7, .ref q_8, .ref q_9, .ref q_10, .ref q_11]))]) (z_runV (C := RX6) (As := [.int x_0]) (rest := []) C0 (c_X6_isNoChild_1 l D k q_2 q_12 q_13 q_14 q_15 q_16 q_17 q_18 q_19 q_20 q_21 q_22 q_23 x_0 0 x_5 _) okV_X6_isNoChild kM_X11_90 rfl (z_pV (q0 := 2) hK hN hP hD [2] rfl rfl rfl rfl rfl) rfl hl.1 rfl (Nat.le_of_ble_eq_true rfl) dX11_goes_51 rfl) hP hD hS hA [2] [0, 1] rfl rfl rfl rfl (fun r6 u6 H locs hw6 hP hD hS => ?_)
      obtain ⟨i6, a6⟩ := u6
      dsimp only at hw6
      obtain ⟨rfl, rfl⟩ := hw6
      have hP : va_P D vwCl [(q_0, .inr (11, [.ref q_1, .ref q_3, .ref q_4, .ref q_5, .ref q_6, .int x_4])), (q_1, .inr (3, [.ref q_2, .ref q_7, .ref q_8, .ref q_9, .ref q_10, .ref q_11])), (q_2, .inr (6, [.int 0, .ref q_12, .ref q_13, .ref q_14, .ref q_15, .ref q_16, .int 0, .ref q_17, .int x_5, .ref q_18, .ref q_19, .ref q_20, .ref q_21, .ref q_22, .ref q_23]))] H := hP
      have hD : va_D A [(q_0, .inr (11, [.ref q_1, .ref q_3, .ref q_4, .ref q_5, .ref q_6, .int x_4])), (q_1, .inr (3, [.ref q_2, .ref q_7, .ref q_8, .ref q_9, .ref q_10, .ref q_11])), (q_2, .inr (6, [.int 0, .ref q_12, .ref q_13, .ref q_14, .ref q_15, .ref q_16, .int 0, .ref q_17, .int x_5, .ref q_18, .ref q_19, .ref q_20, .ref q_21, .ref q_22, .ref q_23]))] := hD
      refine lv_if_ne (tgt := 71) hx hb dX11_goes_54 (by decide) (fun _ => ?_) (fun c7 => absurd c7 (by decide))
      refine lv_aload_n hx hb dX11_goes_71 rfl (lv_at hl 1 rfl) ?_
      refine lv_bipush (v := (-2)) hx hb dX11_goes_72 (by decide) ?_
      refine z_bi (wr := [(q_1, .inr (3, [.ref q_2, .ref q_7, .ref q_8, .ref q_9, .ref q_10, .ref q_11])), (q_2, .inr (6, [.int 0, .ref q_12, .ref q_13, .ref q_14, .ref q_15, .ref q_16, .int 0, .ref q_17, .int x_5, .ref q_18, .ref q_19, .ref q_20, .ref q_21, .ref q_22, .ref q_23]))]) (z_runV (C := RX11) (As := [.int (-2)]) (rest := []) C0 (c_X11_answer_3 l D k q_0 q_1 q_3 q_4 q_5 q_6 x_4 _) okV_X11_answer kM_X11_55 rfl (z_pV (q0 := 0) hK hN hP hD [0] rfl rfl rfl rfl rfl) rfl hl.1 rfl (Nat.le_of_ble_eq_true rfl) dX11_goes_74 rfl) hP hD hS hA [0] [1, 2] rfl rfl rfl rfl (fun r8 u8 H locs hw8 hP hD hS => ?_)
      obtain ⟨i8, a8⟩ := u8
      dsimp only at hw8
      obtain ⟨rfl, rfl⟩ := hw8
      have hP : va_P D vwCl [(q_1, .inr (3, [.ref q_2, .ref q_7, .ref q_8, .ref q_9, .ref q_10, .ref q_11])), (q_2, .inr (6, [.int 0, .ref q_12, .ref q_13, .ref q_14, .ref q_15, .ref q_16, .int 0, .ref q_17, .int x_5, .ref q_18, .ref q_19, .ref q_20, .ref q_21, .ref q_22, .ref q_23])), (q_0, .inr (11, [.ref q_1, .ref q_3, .ref q_4, .ref q_5, .ref q_6, .int (-2)]))] H := hP
      have hD : va_D A [(q_1, .inr (3, [.ref q_2, .ref q_7, .ref q_8, .ref q_9, .ref q_10, .ref q_11])), (q_2, .inr (6, [.int 0, .ref q_12, .ref q_13, .ref q_14, .ref q_15, .ref q_16, .int 0, .ref q_17, .int x_5, .ref q_18, .ref q_19, .ref q_20, .ref q_21, .ref q_22, .ref q_23])), (q_0, .inr (11, [.ref q_1, .ref q_3, .ref q_4, .ref q_5, .ref q_6, .int (-2)]))] := hD
      exact z_iret C0 hr hlk rfl hK hP hD hS (1, fun _ => 0) (Or.inr (⟨rfl, rfl, ⟨c1, c5⟩⟩)) [] rfl rfl rfl dX11_goes_77
    · refine lv_aload_n hx hb dX11_goes_22 rfl (lv_at hl 1 rfl) ?_
      refine va_get (D := D) (ci := 11) (v := .ref q_1) (C := RX11) (T := TX11) (N := 6) hx hb hts inX11 hown hK hP 0 rfl rfl 0 (by decide) (hts _ kF_X11_12) (fun _ h9 => h9) rfl dX11_goes_23 ?_
      refine va_get (D := D) (ci := 3) (v := .ref q_2) (C := RX3) (T := TX3) (N := 6) hx hb hts inX3 hown hK hP 1 rfl rfl 0 (by decide) (hts _ kF_X11_43) (fun _ h9 => h9) rfl dX11_goes_26 ?_
      refine lv_iload hx hb dX11_goes_29 (lv_at hl 5 rfl) ?_
      refine z_bi (wr := [(q_0, .inr (11, [.ref q_1, .ref q_3, .ref q_4, .ref q_5, .ref q_6, .int x_4])), (q_1, .inr (3, [.ref q_2, .ref q_7, .ref q_8, .ref q_9, .ref q_10, .ref q_11]))]) (z_runV (C := RX6) (As := [.int x_3]) (rest := []) C0 (c_X6_isNoSchool_1 l D k q_2 q_12 q_13 q_14 q_15 q_16 q_17 q_18 q_19 q_20 q_21 q_22 q_23 x_3 0 x_5 _) okV_X6_isNoSchool kM_X11_76 rfl (z_pV (q0 := 2) hK hN hP hD [2] rfl rfl rfl rfl rfl) rfl hl.1 rfl (Nat.le_of_ble_eq_true rfl) dX11_goes_31 rfl) hP hD hS hA [2] [0, 1] rfl rfl rfl rfl (fun r9 u9 H locs hw9 hP hD hS => ?_)
      obtain ⟨i9, a9⟩ := u9
      dsimp only at hw9
      obtain ⟨rfl, rfl⟩ := hw9
      have hP : va_P D vwCl [(q_0, .inr (11, [.ref q_1, .ref q_3, .ref q_4, .ref q_5, .ref q_6, .int x_4])), (q_1, .inr (3, [.ref q_2, .ref q_7, .ref q_8, .ref q_9, .ref q_10, .ref q_11])), (q_2, .inr (6, [.int 0, .ref q_12, .ref q_13, .ref q_14, .ref q_15, .ref q_16, .int 0, .ref q_17, .int x_5, .ref q_18, .ref q_19, .ref q_20, .ref q_21, .ref q_22, .ref q_23]))] H := hP
      have hD : va_D A [(q_0, .inr (11, [.ref q_1, .ref q_3, .ref q_4, .ref q_5, .ref q_6, .int x_4])), (q_1, .inr (3, [.ref q_2, .ref q_7, .ref q_8, .ref q_9, .ref q_10, .ref q_11])), (q_2, .inr (6, [.int 0, .ref q_12, .ref q_13, .ref q_14, .ref q_15, .ref q_16, .int 0, .ref q_17, .int x_5, .ref q_18, .ref q_19, .ref q_20, .ref q_21, .ref q_22, .ref q_23]))] := hD
      refine lv_if_eq (tgt := 43) hx hb dX11_goes_34 (by decide) (fun c10 => absurd c10 (by decide)) (fun _ => ?_)
      refine lv_aload_n hx hb dX11_goes_37 rfl (lv_at hl 1 rfl) ?_
      refine lv_iconst (v := (-1)) hx hb dX11_goes_38 (by decide) ?_
      refine z_bi (wr := [(q_1, .inr (3, [.ref q_2, .ref q_7, .ref q_8, .ref q_9, .ref q_10, .ref q_11])), (q_2, .inr (6, [.int 0, .ref q_12, .ref q_13, .ref q_14, .ref q_15, .ref q_16, .int 0, .ref q_17, .int x_5, .ref q_18, .ref q_19, .ref q_20, .ref q_21, .ref q_22, .ref q_23]))]) (z_runV (C := RX11) (As := [.int (-1)]) (rest := []) C0 (c_X11_answer_1 l D k q_0 q_1 q_3 q_4 q_5 q_6 x_4 _) okV_X11_answer kM_X11_55 rfl (z_pV (q0 := 0) hK hN hP hD [0] rfl rfl rfl rfl rfl) rfl hl.1 rfl (Nat.le_of_ble_eq_true rfl) dX11_goes_39 rfl) hP hD hS hA [0] [1, 2] rfl rfl rfl rfl (fun r11 u11 H locs hw11 hP hD hS => ?_)
      obtain ⟨i11, a11⟩ := u11
      dsimp only at hw11
      obtain ⟨rfl, rfl⟩ := hw11
      have hP : va_P D vwCl [(q_1, .inr (3, [.ref q_2, .ref q_7, .ref q_8, .ref q_9, .ref q_10, .ref q_11])), (q_2, .inr (6, [.int 0, .ref q_12, .ref q_13, .ref q_14, .ref q_15, .ref q_16, .int 0, .ref q_17, .int x_5, .ref q_18, .ref q_19, .ref q_20, .ref q_21, .ref q_22, .ref q_23])), (q_0, .inr (11, [.ref q_1, .ref q_3, .ref q_4, .ref q_5, .ref q_6, .int (-1)]))] H := hP
      have hD : va_D A [(q_1, .inr (3, [.ref q_2, .ref q_7, .ref q_8, .ref q_9, .ref q_10, .ref q_11])), (q_2, .inr (6, [.int 0, .ref q_12, .ref q_13, .ref q_14, .ref q_15, .ref q_16, .int 0, .ref q_17, .int x_5, .ref q_18, .ref q_19, .ref q_20, .ref q_21, .ref q_22, .ref q_23])), (q_0, .inr (11, [.ref q_1, .ref q_3, .ref q_4, .ref q_5, .ref q_6, .int (-1)]))] := hD
      exact z_iret C0 hr hlk rfl hK hP hD hS (0, fun _ => 0) (Or.inl ⟨rfl, rfl, (Or.inr (⟨c1, c5⟩))⟩) [] rfl rfl rfl dX11_goes_42

set_option maxHeartbeats 4000000 in
set_option maxRecDepth 100000 in
theorem c_X12_goes_1 (l : Launch) (D : va_G) (k : Nat → ClassId) (q_0 : Nat) (q_1 : Nat) (q_2 : Nat) (q_3 : Nat) (q_4 : Nat) (q_5 : Nat) (q_6 : Nat) (q_7 : Nat) (q_8 : Nat) (q_9 : Nat) (q_10 : Nat) (q_11 : Nat) (q_12 : Nat) (q_13 : Nat) (q_14 : Nat) (q_15 : Nat) (q_16 : Nat) (q_17 : Nat) (q_18 : Nat) (q_19 : Nat) (q_20 : Nat) (q_21 : Nat) (q_22 : Nat) (q_23 : Nat) (q_24 : Nat) (q_25 : Nat) (x_0 : Int32) (x_1 : Int32) (x_2 : Int32) (x_3 : Int32) (x_4 : Int32) (x_5 : Int32) (x_6 : Int32) (x_7 : Int32) (x_8 : Int32) (x_9 : Int32) (x_10 : Int32) (g_11 : Int64) (x_12 : Int32) (x_13 : Int32) (x_14 : Int32) (x_15 : Int32) (x_16 : Int32) (x_17 : Int32) (x_18 : Int32) (x_19 : Int32) (g_20 : Int64) (g_21 : Int64) (x_22 : Int32) (x_23 : Int32) (x_24 : Int32) (x_25 : Int32) (x_26 : Int32) (x_27 : Int32) (x_28 : Int32) (x_29 : Int32) (x_30 : Int32) (x_31 : Int32) (x_32 : Int32) (x_33 : Int32) (x_34 : Int32) : zMi l yX12_goes cX12_goes 7 (some .int) ({ frames := 2, cells := 0, slots := 0, locals := 46 }) D k [.ref q_0, .int x_0, .int x_1, .int x_2, .int x_3] [(q_0, .inr (12, [.int x_4, .int x_5, .ref q_1, .ref q_2, .ref q_3, .int x_6, .ref q_4, .ref q_5, .ref q_6, .ref q_7, .ref q_8, .int x_7, .int x_8, .int x_9, .int x_10, .long g_11, .int x_12, .int x_13, .int x_14, .ref q_9, .int x_15, .ref q_10, .ref q_11, .int x_16, .ref q_12, .ref q_13, .int x_17, .int x_18, .ref q_14, .ref q_15, .ref q_16, .ref q_17, .int x_19, .long g_20, .long g_21, .int x_22, .int x_23, .int x_24, .int x_25, .ref q_18, .ref q_19, .int x_26, .int x_27, .int x_28, .int x_29, .ref q_20, .ref q_21, .int x_30, .int x_31, .ref q_22, .ref q_23, .ref q_24, .ref q_25, .int x_32, .int x_33, .int x_34])), (q_1, .inl (k 0, 27101, .inl (fun _ => 0)))] (fun r u => (u.1 = 0 ∧ r = (-1) ∧ (((((Int32.toInt64 x_2) < 0) ∨ (¬ (Int32.toInt64 x_2) < 0 ∧ (399 : Int64) < (Int32.toInt64 x_2)))) ∨ (((¬ (Int32.toInt64 x_2) < 0 ∧ ¬ (399 : Int64) < (Int32.toInt64 x_2))) ∧ ¬ x_3 = (-1)))) ∨ (u.1 = 1 ∧ r = (-2) ∧ ((((¬ (Int32.toInt64 x_2) < 0 ∧ ¬ (399 : Int64) < (Int32.toInt64 x_2))) ∧ x_3 = (-1))))) (fun u => []) := by
  refine zMi_of (own := RX12) (by decide +kernel) rfl (Nat.le_of_ble_eq_true rfl) ?_
  intro p e s m args below meth c A ls C0 hr hlk hin hP hD hS hA hK hN hl
  have hx := C0.1
  have hb := C0.2.1
  have hml := C0.2.2.1
  have hown := C0.2.2.2.1
  have hts := C0.2.2.2.2
  have hl : lv_has ls 7 [(0, .ref q_0), (1, .int x_0), (2, .int x_1), (3, .int x_2), (4, .int x_3)] := hl
  have hP : va_P D vwCl [(q_0, .inr (12, [.int x_4, .int x_5, .ref q_1, .ref q_2, .ref q_3, .int x_6, .ref q_4, .ref q_5, .ref q_6, .ref q_7, .ref q_8, .int x_7, .int x_8, .int x_9, .int x_10, .long g_11, .int x_12, .int x_13, .int x_14, .ref q_9, .int x_15, .ref q_10, .ref q_11, .int x_16, .ref q_12, .ref q_13, .int x_17, .int x_18, .ref q_14, .ref q_15, .ref q_16, .ref q_17, .int x_19, .long g_20, .long g_21, .int x_22, .int x_23, .int x_24, .int x_25, .ref q_18, .ref q_19, .int x_26, .int x_27, .int x_28, .int x_29, .ref q_20, .ref q_21, .int x_30, .int x_31, .ref q_22, .ref q_23, .ref q_24, .ref q_25, .int x_32, .int x_33, .int x_34])), (q_1, .inl (k 0, 27101, .inl (fun _ => 0)))] s.heap := hP
  refine lv_aload_n hx hb dX12_goes_0 rfl (lv_at hl 0 rfl) ?_
  refine lv_iconst (v := 0) hx hb dX12_goes_1 (by decide) ?_
  refine va_put (D := D) (ci := 12) (v := .int 0) (ty := .int) (C := RX12) (T := TX12) (N := 56) hx hb hts inX12 tyX12 tyX12_ok nmX12 hown hK hP hD hS 0 rfl rfl 0 (by decide) (hts _ kF_X12_92) (fun _ h9 => h9) rfl (by decide +kernel) rfl rfl (Nat.le_of_ble_eq_true rfl) dX12_goes_2 (fun H locs hP hD hS => ?_)
  have hP : va_P D vwCl [(q_0, .inr (12, [.int 0, .int x_5, .ref q_1, .ref q_2, .ref q_3, .int x_6, .ref q_4, .ref q_5, .ref q_6, .ref q_7, .ref q_8, .int x_7, .int x_8, .int x_9, .int x_10, .long g_11, .int x_12, .int x_13, .int x_14, .ref q_9, .int x_15, .ref q_10, .ref q_11, .int x_16, .ref q_12, .ref q_13, .int x_17, .int x_18, .ref q_14, .ref q_15, .ref q_16, .ref q_17, .int x_19, .long g_20, .long g_21, .int x_22, .int x_23, .int x_24, .int x_25, .ref q_18, .ref q_19, .int x_26, .int x_27, .int x_28, .int x_29, .ref q_20, .ref q_21, .int x_30, .int x_31, .ref q_22, .ref q_23, .ref q_24, .ref q_25, .int x_32, .int x_33, .int x_34])), (q_1, .inl (k 0, 27101, .inl (fun _ => 0)))] H := hP
  have hD : va_D A [(q_0, .inr (12, [.int 0, .int x_5, .ref q_1, .ref q_2, .ref q_3, .int x_6, .ref q_4, .ref q_5, .ref q_6, .ref q_7, .ref q_8, .int x_7, .int x_8, .int x_9, .int x_10, .long g_11, .int x_12, .int x_13, .int x_14, .ref q_9, .int x_15, .ref q_10, .ref q_11, .int x_16, .ref q_12, .ref q_13, .int x_17, .int x_18, .ref q_14, .ref q_15, .ref q_16, .ref q_17, .int x_19, .long g_20, .long g_21, .int x_22, .int x_23, .int x_24, .int x_25, .ref q_18, .ref q_19, .int x_26, .int x_27, .int x_28, .int x_29, .ref q_20, .ref q_21, .int x_30, .int x_31, .ref q_22, .ref q_23, .ref q_24, .ref q_25, .int x_32, .int x_33, .int x_34])), (q_1, .inl (k 0, 27101, .inl (fun _ => 0)))] := hD
  refine lv_iload_n hx hb dX12_goes_5 rfl (lv_at hl 3 rfl) ?_
  refine z_bi0 (z_runS (As := [.int x_2]) (rest := []) C0 (c_X12_isDay_1 l D k x_2 _) okS_X12_isDay kM_X12_127 rfl (z_p0 hK hN) rfl hl.1 rfl (Nat.le_of_ble_eq_true rfl) dX12_goes_6 rfl) hP hS hA (fun r1 u1 H locs hw1 hP hS => ?_)
  obtain ⟨i1, a1⟩ := u1
  dsimp only at hw1
  rcases hw1 with ⟨rfl, rfl, c1⟩ | ⟨rfl, rfl, c1⟩
  · refine lv_if_eq (tgt := 27) hx hb dX12_goes_9 (by decide) (fun _ => ?_) (fun c2 => absurd (by decide) c2)
    refine lv_aload_n hx hb dX12_goes_27 rfl (lv_at hl 0 rfl) ?_
    refine lv_iconst (v := (-1)) hx hb dX12_goes_28 (by decide) ?_
    refine z_bi (wr := [(q_1, .inl (k 0, 27101, .inl (fun _ => 0)))]) (z_runV (C := RX12) (As := [.int (-1)]) (rest := []) C0 (c_X12_told_1 l D k q_0 q_1 q_2 q_3 q_4 q_5 q_6 q_7 q_8 q_9 q_10 q_11 q_12 q_13 q_14 q_15 q_16 q_17 q_18 q_19 q_20 q_21 q_22 q_23 q_24 q_25 0 x_5 x_6 x_7 x_8 x_9 x_10 g_11 x_12 x_13 x_14 x_15 x_16 x_17 x_18 x_19 g_20 g_21 x_22 x_23 x_24 x_25 x_26 x_27 x_28 x_29 x_30 x_31 x_32 x_33 x_34 _) okV_X12_told kM_X12_106 rfl (z_pV (q0 := 0) hK hN hP hD [0] rfl rfl rfl rfl rfl) rfl hl.1 rfl (Nat.le_of_ble_eq_true rfl) dX12_goes_29 rfl) hP hD hS hA [0] [1] rfl rfl rfl rfl (fun r3 u3 H locs hw3 hP hD hS => ?_)
    obtain ⟨i3, a3⟩ := u3
    dsimp only at hw3
    obtain ⟨rfl, rfl⟩ := hw3
    have hP : va_P D vwCl [(q_1, .inl (k 0, 27101, .inl (fun _ => 0))), (q_0, .inr (12, [.int 0, .int (-1), .ref q_1, .ref q_2, .ref q_3, .int x_6, .ref q_4, .ref q_5, .ref q_6, .ref q_7, .ref q_8, .int x_7, .int x_8, .int x_9, .int x_10, .long g_11, .int x_12, .int x_13, .int x_14, .ref q_9, .int x_15, .ref q_10, .ref q_11, .int x_16, .ref q_12, .ref q_13, .int x_17, .int x_18, .ref q_14, .ref q_15, .ref q_16, .ref q_17, .int x_19, .long g_20, .long g_21, .int x_22, .int x_23, .int x_24, .int x_25, .ref q_18, .ref q_19, .int x_26, .int x_27, .int x_28, .int x_29, .ref q_20, .ref q_21, .int x_30, .int x_31, .ref q_22, .ref q_23, .ref q_24, .ref q_25, .int x_32, .int x_33, .int x_34]))] H := hP
    have hD : va_D A [(q_1, .inl (k 0, 27101, .inl (fun _ => 0))), (q_0, .inr (12, [.int 0, .int (-1), .ref q_1, .ref q_2, .ref q_3, .int x_6, .ref q_4, .ref q_5, .ref q_6, .ref q_7, .ref q_8, .int x_7, .int x_8, .int x_9, .int x_10, .long g_11, .int x_12, .int x_13, .int x_14, .ref q_9, .int x_15, .ref q_10, .ref q_11, .int x_16, .ref q_12, .ref q_13, .int x_17, .int x_18, .ref q_14, .ref q_15, .ref q_16, .ref q_17, .int x_19, .long g_20, .long g_21, .int x_22, .int x_23, .int x_24, .int x_25, .ref q_18, .ref q_19, .int x_26, .int x_27, .int x_28, .int x_29, .ref q_20, .ref q_21, .int x_30, .int x_31, .ref q_22, .ref q_23, .ref q_24, .ref q_25, .int x_32, .int x_33, .int x_34]))] := hD
    exact z_iret C0 hr hlk rfl hK hP hD hS (0, fun _ => 0) (Or.inl ⟨rfl, rfl, (Or.inl c1)⟩) [] rfl rfl rfl dX12_goes_32
  · refine lv_if_eq (tgt := 27) hx hb dX12_goes_9 (by decide) (fun c4 => absurd c4 (by decide)) (fun _ => ?_)
    refine lv_iload hx hb dX12_goes_12 (lv_at hl 4 rfl) ?_
    refine lv_iconst (v := (-1)) hx hb dX12_goes_14 (by decide) ?_
    refine lv_icmp_eq (tgt := 33) hx hb dX12_goes_15 (by decide) (fun c5 => ?_) (fun c5 => ?_)
    · refine lv_aload_n hx hb dX12_goes_33 rfl (lv_at hl 0 rfl) ?_
      refine lv_iload_n hx hb dX12_goes_34 rfl (lv_at hl 1 rfl) ?_
      refine z_bi (wr := []) (z_runV (C := RX12) (As := [.int x_0]) (rest := []) C0 (c_X12_isChild_1 l D k q_0 q_1 q_2 q_3 q_4 q_5 q_6 q_7 q_8 q_9 q_10 q_11 q_12 q_13 q_14 q_15 q_16 q_17 q_18 q_19 q_20 q_21 q_22 q_23 q_24 q_25 x_0 0 x_5 x_6 x_7 x_8 x_9 x_10 g_11 x_12 x_13 x_14 x_15 x_16 x_17 x_18 x_19 g_20 g_21 x_22 x_23 x_24 x_25 x_26 x_27 x_28 x_29 x_30 x_31 x_32 x_33 x_34 _) okV_X12_isChild kM_X12_138 rfl (z_pV (q0 := 0) hK hN hP hD [0, 1] rfl rfl rfl rfl rfl) rfl hl.1 rfl (Nat.le_of_ble_eq_true rfl) dX12_goes_35 rfl) hP hD hS hA [0, 1] [] rfl rfl rfl rfl (fun r6 u6 H locs hw6 hP hD hS => ?_)
      obtain ⟨i6, a6⟩ := u6
      dsimp only at hw6
      obtain ⟨rfl, rfl⟩ := hw6
      have hP : va_P D vwCl [(q_0, .inr (12, [.int 0, .int x_5, .ref q_1, .ref q_2, .ref q_3, .int x_6, .ref q_4, .ref q_5, .ref q_6, .ref q_7, .ref q_8, .int x_7, .int x_8, .int x_9, .int x_10, .long g_11, .int x_12, .int x_13, .int x_14, .ref q_9, .int x_15, .ref q_10, .ref q_11, .int x_16, .ref q_12, .ref q_13, .int x_17, .int x_18, .ref q_14, .ref q_15, .ref q_16, .ref q_17, .int x_19, .long g_20, .long g_21, .int x_22, .int x_23, .int x_24, .int x_25, .ref q_18, .ref q_19, .int x_26, .int x_27, .int x_28, .int x_29, .ref q_20, .ref q_21, .int x_30, .int x_31, .ref q_22, .ref q_23, .ref q_24, .ref q_25, .int x_32, .int x_33, .int x_34])), (q_1, .inl (k 0, 27101, .inl (fun _ => 0)))] H := hP
      have hD : va_D A [(q_0, .inr (12, [.int 0, .int x_5, .ref q_1, .ref q_2, .ref q_3, .int x_6, .ref q_4, .ref q_5, .ref q_6, .ref q_7, .ref q_8, .int x_7, .int x_8, .int x_9, .int x_10, .long g_11, .int x_12, .int x_13, .int x_14, .ref q_9, .int x_15, .ref q_10, .ref q_11, .int x_16, .ref q_12, .ref q_13, .int x_17, .int x_18, .ref q_14, .ref q_15, .ref q_16, .ref q_17, .int x_19, .long g_20, .long g_21, .int x_22, .int x_23, .int x_24, .int x_25, .ref q_18, .ref q_19, .int x_26, .int x_27, .int x_28, .int x_29, .ref q_20, .ref q_21, .int x_30, .int x_31, .ref q_22, .ref q_23, .ref q_24, .ref q_25, .int x_32, .int x_33, .int x_34])), (q_1, .inl (k 0, 27101, .inl (fun _ => 0)))] := hD
      refine lv_if_eq (tgt := 49) hx hb dX12_goes_38 (by decide) (fun _ => ?_) (fun c7 => absurd (by decide) c7)
      refine lv_aload_n hx hb dX12_goes_49 rfl (lv_at hl 0 rfl) ?_
      refine lv_bipush (v := (-2)) hx hb dX12_goes_50 (by decide) ?_
      refine z_bi (wr := [(q_1, .inl (k 0, 27101, .inl (fun _ => 0)))]) (z_runV (C := RX12) (As := [.int (-2)]) (rest := []) C0 (c_X12_told_3 l D k q_0 q_1 q_2 q_3 q_4 q_5 q_6 q_7 q_8 q_9 q_10 q_11 q_12 q_13 q_14 q_15 q_16 q_17 q_18 q_19 q_20 q_21 q_22 q_23 q_24 q_25 0 x_5 x_6 x_7 x_8 x_9 x_10 g_11 x_12 x_13 x_14 x_15 x_16 x_17 x_18 x_19 g_20 g_21 x_22 x_23 x_24 x_25 x_26 x_27 x_28 x_29 x_30 x_31 x_32 x_33 x_34 _) okV_X12_told kM_X12_106 rfl (z_pV (q0 := 0) hK hN hP hD [0] rfl rfl rfl rfl rfl) rfl hl.1 rfl (Nat.le_of_ble_eq_true rfl) dX12_goes_52 rfl) hP hD hS hA [0] [1] rfl rfl rfl rfl (fun r8 u8 H locs hw8 hP hD hS => ?_)
      obtain ⟨i8, a8⟩ := u8
      dsimp only at hw8
      obtain ⟨rfl, rfl⟩ := hw8
      have hP : va_P D vwCl [(q_1, .inl (k 0, 27101, .inl (fun _ => 0))), (q_0, .inr (12, [.int 0, .int (-2), .ref q_1, .ref q_2, .ref q_3, .int x_6, .ref q_4, .ref q_5, .ref q_6, .ref q_7, .ref q_8, .int x_7, .int x_8, .int x_9, .int x_10, .long g_11, .int x_12, .int x_13, .int x_14, .ref q_9, .int x_15, .ref q_10, .ref q_11, .int x_16, .ref q_12, .ref q_13, .int x_17, .int x_18, .ref q_14, .ref q_15, .ref q_16, .ref q_17, .int x_19, .long g_20, .long g_21, .int x_22, .int x_23, .int x_24, .int x_25, .ref q_18, .ref q_19, .int x_26, .int x_27, .int x_28, .int x_29, .ref q_20, .ref q_21, .int x_30, .int x_31, .ref q_22, .ref q_23, .ref q_24, .ref q_25, .int x_32, .int x_33, .int x_34]))] H := hP
      have hD : va_D A [(q_1, .inl (k 0, 27101, .inl (fun _ => 0))), (q_0, .inr (12, [.int 0, .int (-2), .ref q_1, .ref q_2, .ref q_3, .int x_6, .ref q_4, .ref q_5, .ref q_6, .ref q_7, .ref q_8, .int x_7, .int x_8, .int x_9, .int x_10, .long g_11, .int x_12, .int x_13, .int x_14, .ref q_9, .int x_15, .ref q_10, .ref q_11, .int x_16, .ref q_12, .ref q_13, .int x_17, .int x_18, .ref q_14, .ref q_15, .ref q_16, .ref q_17, .int x_19, .long g_20, .long g_21, .int x_22, .int x_23, .int x_24, .int x_25, .ref q_18, .ref q_19, .int x_26, .int x_27, .int x_28, .int x_29, .ref q_20, .ref q_21, .int x_30, .int x_31, .ref q_22, .ref q_23, .ref q_24, .ref q_25, .int x_32, .int x_33, .int x_34]))] := hD
      exact z_iret C0 hr hlk rfl hK hP hD hS (1, fun _ => 0) (Or.inr (⟨rfl, rfl, ⟨c1, c5⟩⟩)) [] rfl rfl rfl dX12_goes_55
    · refine lv_aload_n hx hb dX12_goes_18 rfl (lv_at hl 0 rfl) ?_
      refine lv_iload hx hb dX12_goes_19 (lv_at hl 4 rfl) ?_
      refine z_bi (wr := []) (z_runV (C := RX12) (As := [.int x_3]) (rest := []) C0 (c_X12_isSchool_1 l D k q_0 q_1 q_2 q_3 q_4 q_5 q_6 q_7 q_8 q_9 q_10 q_11 q_12 q_13 q_14 q_15 q_16 q_17 q_18 q_19 q_20 q_21 q_22 q_23 q_24 q_25 x_3 0 x_5 x_6 x_7 x_8 x_9 x_10 g_11 x_12 x_13 x_14 x_15 x_16 x_17 x_18 x_19 g_20 g_21 x_22 x_23 x_24 x_25 x_26 x_27 x_28 x_29 x_30 x_31 x_32 x_33 x_34 _) okV_X12_isSchool kM_X12_131 rfl (z_pV (q0 := 0) hK hN hP hD [0, 1] rfl rfl rfl rfl rfl) rfl hl.1 rfl (Nat.le_of_ble_eq_true rfl) dX12_goes_21 rfl) hP hD hS hA [0, 1] [] rfl rfl rfl rfl (fun r9 u9 H locs hw9 hP hD hS => ?_)
      obtain ⟨i9, a9⟩ := u9
      dsimp only at hw9
      obtain ⟨rfl, rfl⟩ := hw9
      have hP : va_P D vwCl [(q_0, .inr (12, [.int 0, .int x_5, .ref q_1, .ref q_2, .ref q_3, .int x_6, .ref q_4, .ref q_5, .ref q_6, .ref q_7, .ref q_8, .int x_7, .int x_8, .int x_9, .int x_10, .long g_11, .int x_12, .int x_13, .int x_14, .ref q_9, .int x_15, .ref q_10, .ref q_11, .int x_16, .ref q_12, .ref q_13, .int x_17, .int x_18, .ref q_14, .ref q_15, .ref q_16, .ref q_17, .int x_19, .long g_20, .long g_21, .int x_22, .int x_23, .int x_24, .int x_25, .ref q_18, .ref q_19, .int x_26, .int x_27, .int x_28, .int x_29, .ref q_20, .ref q_21, .int x_30, .int x_31, .ref q_22, .ref q_23, .ref q_24, .ref q_25, .int x_32, .int x_33, .int x_34])), (q_1, .inl (k 0, 27101, .inl (fun _ => 0)))] H := hP
      have hD : va_D A [(q_0, .inr (12, [.int 0, .int x_5, .ref q_1, .ref q_2, .ref q_3, .int x_6, .ref q_4, .ref q_5, .ref q_6, .ref q_7, .ref q_8, .int x_7, .int x_8, .int x_9, .int x_10, .long g_11, .int x_12, .int x_13, .int x_14, .ref q_9, .int x_15, .ref q_10, .ref q_11, .int x_16, .ref q_12, .ref q_13, .int x_17, .int x_18, .ref q_14, .ref q_15, .ref q_16, .ref q_17, .int x_19, .long g_20, .long g_21, .int x_22, .int x_23, .int x_24, .int x_25, .ref q_18, .ref q_19, .int x_26, .int x_27, .int x_28, .int x_29, .ref q_20, .ref q_21, .int x_30, .int x_31, .ref q_22, .ref q_23, .ref q_24, .ref q_25, .int x_32, .int x_33, .int x_34])), (q_1, .inl (k 0, 27101, .inl (fun _ => 0)))] := hD
      refine lv_if_ne (tgt := 33) hx hb dX12_goes_24 (by decide) (fun c10 => absurd (by decide) c10) (fun _ => ?_)
      refine lv_aload_n hx hb dX12_goes_27 rfl (lv_at hl 0 rfl) ?_
      refine lv_iconst (v := (-1)) hx hb dX12_goes_28 (by decide) ?_
      refine z_bi (wr := [(q_1, .inl (k 0, 27101, .inl (fun _ => 0)))]) (z_runV (C := RX12) (As := [.int (-1)]) (rest := []) C0 (c_X12_told_1 l D k q_0 q_1 q_2 q_3 q_4 q_5 q_6 q_7 q_8 q_9 q_10 q_11 q_12 q_13 q_14 q_15 q_16 q_17 q_18 q_19 q_20 q_21 q_22 q_23 q_24 q_25 0 x_5 x_6 x_7 x_8 x_9 x_10 g_11 x_12 x_13 x_14 x_15 x_16 x_17 x_18 x_19 g_20 g_21 x_22 x_23 x_24 x_25 x_26 x_27 x_28 x_29 x_30 x_31 x_32 x_33 x_34 _) okV_X12_told kM_X12_106 rfl (z_pV (q0 := 0) hK hN hP hD [0] rfl rfl rfl rfl rfl) rfl hl.1 rfl (Nat.le_of_ble_eq_true rfl) dX12_goes_29 rfl) hP hD hS hA [0] [1] rfl rfl rfl rfl (fun r11 u11 H locs hw11 hP hD hS => ?_)
      obtain ⟨i11, a11⟩ := u11
      dsimp only at hw11
      obtain ⟨rfl, rfl⟩ := hw11
      have hP : va_P D vwCl [(q_1, .inl (k 0, 27101, .inl (fun _ => 0))), (q_0, .inr (12, [.int 0, .int (-1), .ref q_1, .ref q_2, .ref q_3, .int x_6, .ref q_4, .ref q_5, .ref q_6, .ref q_7, .ref q_8, .int x_7, .int x_8, .int x_9, .int x_10, .long g_11, .int x_12, .int x_13, .int x_14, .ref q_9, .int x_15, .ref q_10, .ref q_11, .int x_16, .ref q_12, .ref q_13, .int x_17, .int x_18, .ref q_14, .ref q_15, .ref q_16, .ref q_17, .int x_19, .long g_20, .long g_21, .int x_22, .int x_23, .int x_24, .int x_25, .ref q_18, .ref q_19, .int x_26, .int x_27, .int x_28, .int x_29, .ref q_20, .ref q_21, .int x_30, .int x_31, .ref q_22, .ref q_23, .ref q_24, .ref q_25, .int x_32, .int x_33, .int x_34]))] H := hP
      have hD : va_D A [(q_1, .inl (k 0, 27101, .inl (fun _ => 0))), (q_0, .inr (12, [.int 0, .int (-1), .ref q_1, .ref q_2, .ref q_3, .int x_6, .ref q_4, .ref q_5, .ref q_6, .ref q_7, .ref q_8, .int x_7, .int x_8, .int x_9, .int x_10, .long g_11, .int x_12, .int x_13, .int x_14, .ref q_9, .int x_15, .ref q_10, .ref q_11, .int x_16, .ref q_12, .ref q_13, .int x_17, .int x_18, .ref q_14, .ref q_15, .ref q_16, .ref q_17, .int x_19, .long g_20, .long g_21, .int x_22, .int x_23, .int x_24, .int x_25, .ref q_18, .ref q_19, .int x_26, .int x_27, .int x_28, .int x_29, .ref q_20, .ref q_21, .int x_30, .int x_31, .ref q_22, .ref q_23, .ref q_24, .ref q_25, .int x_32, .int x_33, .int x_34]))] := hD
      exact z_iret C0 hr hlk rfl hK hP hD hS (0, fun _ => 0) (Or.inl ⟨rfl, rfl, (Or.inr (⟨c1, c5⟩))⟩) [] rfl rfl rfl dX12_goes_32

set_option maxHeartbeats 4000000 in
set_option maxRecDepth 100000 in
theorem c_X11_isOn_1 (l : Launch) (D : va_G) (k : Nat → ClassId) (q_0 : Nat) (q_1 : Nat) (q_2 : Nat) (q_3 : Nat) (q_4 : Nat) (q_5 : Nat) (q_6 : Nat) (q_7 : Nat) (q_8 : Nat) (q_9 : Nat) (q_10 : Nat) (q_11 : Nat) (q_12 : Nat) (q_13 : Nat) (q_14 : Nat) (q_15 : Nat) (q_16 : Nat) (q_17 : Nat) (q_18 : Nat) (q_19 : Nat) (q_20 : Nat) (q_21 : Nat) (q_22 : Nat) (q_23 : Nat) (x_0 : Int32) (x_1 : Int32) (x_2 : Int32) (x_3 : Int32) (x_4 : Int32) (x_5 : Int32) : zMi l yX11_isOn cX11_isOn 4 (some .int) ({ frames := 1, cells := 0, slots := 0, locals := 21 }) D k [.ref q_0, .int x_0, .int x_1, .int x_2] [(q_0, .inr (11, [.ref q_1, .ref q_3, .ref q_4, .ref q_5, .ref q_6, .int x_3])), (q_1, .inr (3, [.ref q_2, .ref q_7, .ref q_8, .ref q_9, .ref q_10, .ref q_11])), (q_2, .inr (6, [.int 0, .ref q_12, .ref q_13, .ref q_14, .ref q_15, .ref q_16, .int x_4, .ref q_17, .int x_5, .ref q_18, .ref q_19, .ref q_20, .ref q_21, .ref q_22, .ref q_23]))] (fun r u => u.1 = 0 ∧ r = (-1)) (fun u => []) := by
  refine zMi_of (own := RX11) (by decide +kernel) rfl (Nat.le_of_ble_eq_true rfl) ?_
  intro p e s m args below meth c A ls C0 hr hlk hin hP hD hS hA hK hN hl
  have hx := C0.1
  have hb := C0.2.1
  have hml := C0.2.2.1
  have hown := C0.2.2.2.1
  have hts := C0.2.2.2.2
  have hl : lv_has ls 4 [(0, .ref q_0), (1, .int x_0), (2, .int x_1), (3, .int x_2)] := hl
  have hP : va_P D vwCl [(q_0, .inr (11, [.ref q_1, .ref q_3, .ref q_4, .ref q_5, .ref q_6, .int x_3])), (q_1, .inr (3, [.ref q_2, .ref q_7, .ref q_8, .ref q_9, .ref q_10, .ref q_11])), (q_2, .inr (6, [.int 0, .ref q_12, .ref q_13, .ref q_14, .ref q_15, .ref q_16, .int x_4, .ref q_17, .int x_5, .ref q_18, .ref q_19, .ref q_20, .ref q_21, .ref q_22, .ref q_23]))] s.heap := hP
  refine lv_iload_n hx hb dX11_isOn_0 rfl (lv_at hl 3 rfl) ?_
  refine z_bi0 (z_runS (As := [.int x_2]) (rest := []) C0 (c_X11_isNoDay_1 l D k x_2 _) okS_X11_isNoDay kM_X11_72 rfl (z_p0 hK hN) rfl hl.1 rfl (Nat.le_of_ble_eq_true rfl) dX11_isOn_1 rfl) hP hS hA (fun r1 u1 H locs hw1 hP hS => ?_)
  obtain ⟨i1, a1⟩ := u1
  dsimp only at hw1
  rcases hw1 with ⟨rfl, rfl, c1⟩ | ⟨rfl, rfl, c1⟩
  · refine lv_if_ne (tgt := 35) hx hb dX11_isOn_4 (by decide) (fun _ => ?_) (fun c2 => absurd c2 (by decide))
    refine lv_iconst (v := (-1)) hx hb dX11_isOn_35 (by decide) ?_
    exact z_iret C0 hr hlk rfl hK hP hD hS (0, fun _ => 0) ⟨rfl, rfl⟩ [] rfl rfl rfl dX11_isOn_36
  · refine lv_if_ne (tgt := 35) hx hb dX11_isOn_4 (by decide) (fun c3 => absurd (by decide) c3) (fun _ => ?_)
    refine lv_aload_n hx hb dX11_isOn_7 rfl (lv_at hl 0 rfl) ?_
    refine va_get (D := D) (ci := 11) (v := .ref q_1) (C := RX11) (T := TX11) (N := 6) hx hb hts inX11 hown hK hP 0 rfl rfl 0 (by decide) (hts _ kF_X11_12) (fun _ h9 => h9) rfl dX11_isOn_8 ?_
    refine va_get (D := D) (ci := 3) (v := .ref q_2) (C := RX3) (T := TX3) (N := 6) hx hb hts inX3 hown hK hP 1 rfl rfl 0 (by decide) (hts _ kF_X11_43) (fun _ h9 => h9) rfl dX11_isOn_11 ?_
    refine lv_iload_n hx hb dX11_isOn_14 rfl (lv_at hl 1 rfl) ?_
    refine z_bi (wr := [(q_0, .inr (11, [.ref q_1, .ref q_3, .ref q_4, .ref q_5, .ref q_6, .int x_3])), (q_1, .inr (3, [.ref q_2, .ref q_7, .ref q_8, .ref q_9, .ref q_10, .ref q_11]))]) (z_runV (C := RX6) (As := [.int x_0]) (rest := []) C0 (c_X6_isNoChild_1 l D k q_2 q_12 q_13 q_14 q_15 q_16 q_17 q_18 q_19 q_20 q_21 q_22 q_23 x_0 x_4 x_5 _) okV_X6_isNoChild kM_X11_90 rfl (z_pV (q0 := 2) hK hN hP hD [2] rfl rfl rfl rfl rfl) rfl hl.1 rfl (Nat.le_of_ble_eq_true rfl) dX11_isOn_15 rfl) hP hD hS hA [2] [0, 1] rfl rfl rfl rfl (fun r4 u4 H locs hw4 hP hD hS => ?_)
    obtain ⟨i4, a4⟩ := u4
    dsimp only at hw4
    obtain ⟨rfl, rfl⟩ := hw4
    have hP : va_P D vwCl [(q_0, .inr (11, [.ref q_1, .ref q_3, .ref q_4, .ref q_5, .ref q_6, .int x_3])), (q_1, .inr (3, [.ref q_2, .ref q_7, .ref q_8, .ref q_9, .ref q_10, .ref q_11])), (q_2, .inr (6, [.int 0, .ref q_12, .ref q_13, .ref q_14, .ref q_15, .ref q_16, .int x_4, .ref q_17, .int x_5, .ref q_18, .ref q_19, .ref q_20, .ref q_21, .ref q_22, .ref q_23]))] H := hP
    have hD : va_D A [(q_0, .inr (11, [.ref q_1, .ref q_3, .ref q_4, .ref q_5, .ref q_6, .int x_3])), (q_1, .inr (3, [.ref q_2, .ref q_7, .ref q_8, .ref q_9, .ref q_10, .ref q_11])), (q_2, .inr (6, [.int 0, .ref q_12, .ref q_13, .ref q_14, .ref q_15, .ref q_16, .int x_4, .ref q_17, .int x_5, .ref q_18, .ref q_19, .ref q_20, .ref q_21, .ref q_22, .ref q_23]))] := hD
    refine lv_if_ne (tgt := 35) hx hb dX11_isOn_18 (by decide) (fun _ => ?_) (fun c5 => absurd c5 (by decide))
    refine lv_iconst (v := (-1)) hx hb dX11_isOn_35 (by decide) ?_
    exact z_iret C0 hr hlk rfl hK hP hD hS (0, fun _ => 0) ⟨rfl, rfl⟩ [] rfl rfl rfl dX11_isOn_36

set_option maxHeartbeats 4000000 in
set_option maxRecDepth 100000 in
theorem c_X12_isOn_1 (l : Launch) (D : va_G) (k : Nat → ClassId) (q_0 : Nat) (q_1 : Nat) (q_2 : Nat) (q_3 : Nat) (q_4 : Nat) (q_5 : Nat) (q_6 : Nat) (q_7 : Nat) (q_8 : Nat) (q_9 : Nat) (q_10 : Nat) (q_11 : Nat) (q_12 : Nat) (q_13 : Nat) (q_14 : Nat) (q_15 : Nat) (q_16 : Nat) (q_17 : Nat) (q_18 : Nat) (q_19 : Nat) (q_20 : Nat) (q_21 : Nat) (q_22 : Nat) (q_23 : Nat) (q_24 : Nat) (q_25 : Nat) (x_0 : Int32) (x_1 : Int32) (x_2 : Int32) (x_3 : Int32) (x_4 : Int32) (x_5 : Int32) (x_6 : Int32) (x_7 : Int32) (x_8 : Int32) (x_9 : Int32) (g_10 : Int64) (x_11 : Int32) (x_12 : Int32) (x_13 : Int32) (x_14 : Int32) (x_15 : Int32) (x_16 : Int32) (x_17 : Int32) (x_18 : Int32) (g_19 : Int64) (g_20 : Int64) (x_21 : Int32) (x_22 : Int32) (x_23 : Int32) (x_24 : Int32) (x_25 : Int32) (x_26 : Int32) (x_27 : Int32) (x_28 : Int32) (x_29 : Int32) (x_30 : Int32) (x_31 : Int32) (x_32 : Int32) (x_33 : Int32) : zMi l yX12_isOn cX12_isOn 4 (some .int) ({ frames := 2, cells := 0, slots := 0, locals := 46 }) D k [.ref q_0, .int x_0, .int x_1, .int x_2] [(q_0, .inr (12, [.int x_3, .int x_4, .ref q_1, .ref q_2, .ref q_3, .int x_5, .ref q_4, .ref q_5, .ref q_6, .ref q_7, .ref q_8, .int x_6, .int x_7, .int x_8, .int x_9, .long g_10, .int x_11, .int x_12, .int x_13, .ref q_9, .int x_14, .ref q_10, .ref q_11, .int x_15, .ref q_12, .ref q_13, .int x_16, .int x_17, .ref q_14, .ref q_15, .ref q_16, .ref q_17, .int x_18, .long g_19, .long g_20, .int x_21, .int x_22, .int x_23, .int x_24, .ref q_18, .ref q_19, .int x_25, .int x_26, .int x_27, .int x_28, .ref q_20, .ref q_21, .int x_29, .int x_30, .ref q_22, .ref q_23, .ref q_24, .ref q_25, .int x_31, .int x_32, .int x_33])), (q_1, .inl (k 0, 27101, .inl (fun _ => 0)))] (fun r u => u.1 = 0 ∧ r = (-1)) (fun u => []) := by
  refine zMi_of (own := RX12) (by decide +kernel) rfl (Nat.le_of_ble_eq_true rfl) ?_
  intro p e s m args below meth c A ls C0 hr hlk hin hP hD hS hA hK hN hl
  have hx := C0.1
  have hb := C0.2.1
  have hml := C0.2.2.1
  have hown := C0.2.2.2.1
  have hts := C0.2.2.2.2
  have hl : lv_has ls 4 [(0, .ref q_0), (1, .int x_0), (2, .int x_1), (3, .int x_2)] := hl
  have hP : va_P D vwCl [(q_0, .inr (12, [.int x_3, .int x_4, .ref q_1, .ref q_2, .ref q_3, .int x_5, .ref q_4, .ref q_5, .ref q_6, .ref q_7, .ref q_8, .int x_6, .int x_7, .int x_8, .int x_9, .long g_10, .int x_11, .int x_12, .int x_13, .ref q_9, .int x_14, .ref q_10, .ref q_11, .int x_15, .ref q_12, .ref q_13, .int x_16, .int x_17, .ref q_14, .ref q_15, .ref q_16, .ref q_17, .int x_18, .long g_19, .long g_20, .int x_21, .int x_22, .int x_23, .int x_24, .ref q_18, .ref q_19, .int x_25, .int x_26, .int x_27, .int x_28, .ref q_20, .ref q_21, .int x_29, .int x_30, .ref q_22, .ref q_23, .ref q_24, .ref q_25, .int x_31, .int x_32, .int x_33])), (q_1, .inl (k 0, 27101, .inl (fun _ => 0)))] s.heap := hP
  refine lv_aload_n hx hb dX12_isOn_0 rfl (lv_at hl 0 rfl) ?_
  refine lv_iconst (v := 0) hx hb dX12_isOn_1 (by decide) ?_
  refine va_put (D := D) (ci := 12) (v := .int 0) (ty := .int) (C := RX12) (T := TX12) (N := 56) hx hb hts inX12 tyX12 tyX12_ok nmX12 hown hK hP hD hS 0 rfl rfl 0 (by decide) (hts _ kF_X12_92) (fun _ h9 => h9) rfl (by decide +kernel) rfl rfl (Nat.le_of_ble_eq_true rfl) dX12_isOn_2 (fun H locs hP hD hS => ?_)
  have hP : va_P D vwCl [(q_0, .inr (12, [.int 0, .int x_4, .ref q_1, .ref q_2, .ref q_3, .int x_5, .ref q_4, .ref q_5, .ref q_6, .ref q_7, .ref q_8, .int x_6, .int x_7, .int x_8, .int x_9, .long g_10, .int x_11, .int x_12, .int x_13, .ref q_9, .int x_14, .ref q_10, .ref q_11, .int x_15, .ref q_12, .ref q_13, .int x_16, .int x_17, .ref q_14, .ref q_15, .ref q_16, .ref q_17, .int x_18, .long g_19, .long g_20, .int x_21, .int x_22, .int x_23, .int x_24, .ref q_18, .ref q_19, .int x_25, .int x_26, .int x_27, .int x_28, .ref q_20, .ref q_21, .int x_29, .int x_30, .ref q_22, .ref q_23, .ref q_24, .ref q_25, .int x_31, .int x_32, .int x_33])), (q_1, .inl (k 0, 27101, .inl (fun _ => 0)))] H := hP
  have hD : va_D A [(q_0, .inr (12, [.int 0, .int x_4, .ref q_1, .ref q_2, .ref q_3, .int x_5, .ref q_4, .ref q_5, .ref q_6, .ref q_7, .ref q_8, .int x_6, .int x_7, .int x_8, .int x_9, .long g_10, .int x_11, .int x_12, .int x_13, .ref q_9, .int x_14, .ref q_10, .ref q_11, .int x_15, .ref q_12, .ref q_13, .int x_16, .int x_17, .ref q_14, .ref q_15, .ref q_16, .ref q_17, .int x_18, .long g_19, .long g_20, .int x_21, .int x_22, .int x_23, .int x_24, .ref q_18, .ref q_19, .int x_25, .int x_26, .int x_27, .int x_28, .ref q_20, .ref q_21, .int x_29, .int x_30, .ref q_22, .ref q_23, .ref q_24, .ref q_25, .int x_31, .int x_32, .int x_33])), (q_1, .inl (k 0, 27101, .inl (fun _ => 0)))] := hD
  refine lv_aload_n hx hb dX12_isOn_5 rfl (lv_at hl 0 rfl) ?_
  refine lv_iload_n hx hb dX12_isOn_6 rfl (lv_at hl 1 rfl) ?_
  refine z_bi (wr := []) (z_runV (C := RX12) (As := [.int x_0]) (rest := []) C0 (c_X12_isChild_1 l D k q_0 q_1 q_2 q_3 q_4 q_5 q_6 q_7 q_8 q_9 q_10 q_11 q_12 q_13 q_14 q_15 q_16 q_17 q_18 q_19 q_20 q_21 q_22 q_23 q_24 q_25 x_0 0 x_4 x_5 x_6 x_7 x_8 x_9 g_10 x_11 x_12 x_13 x_14 x_15 x_16 x_17 x_18 g_19 g_20 x_21 x_22 x_23 x_24 x_25 x_26 x_27 x_28 x_29 x_30 x_31 x_32 x_33 _) okV_X12_isChild kM_X12_138 rfl (z_pV (q0 := 0) hK hN hP hD [0, 1] rfl rfl rfl rfl rfl) rfl hl.1 rfl (Nat.le_of_ble_eq_true rfl) dX12_isOn_7 rfl) hP hD hS hA [0, 1] [] rfl rfl rfl rfl (fun r1 u1 H locs hw1 hP hD hS => ?_)
  obtain ⟨i1, a1⟩ := u1
  dsimp only at hw1
  obtain ⟨rfl, rfl⟩ := hw1
  have hP : va_P D vwCl [(q_0, .inr (12, [.int 0, .int x_4, .ref q_1, .ref q_2, .ref q_3, .int x_5, .ref q_4, .ref q_5, .ref q_6, .ref q_7, .ref q_8, .int x_6, .int x_7, .int x_8, .int x_9, .long g_10, .int x_11, .int x_12, .int x_13, .ref q_9, .int x_14, .ref q_10, .ref q_11, .int x_15, .ref q_12, .ref q_13, .int x_16, .int x_17, .ref q_14, .ref q_15, .ref q_16, .ref q_17, .int x_18, .long g_19, .long g_20, .int x_21, .int x_22, .int x_23, .int x_24, .ref q_18, .ref q_19, .int x_25, .int x_26, .int x_27, .int x_28, .ref q_20, .ref q_21, .int x_29, .int x_30, .ref q_22, .ref q_23, .ref q_24, .ref q_25, .int x_31, .int x_32, .int x_33])), (q_1, .inl (k 0, 27101, .inl (fun _ => 0)))] H := hP
  have hD : va_D A [(q_0, .inr (12, [.int 0, .int x_4, .ref q_1, .ref q_2, .ref q_3, .int x_5, .ref q_4, .ref q_5, .ref q_6, .ref q_7, .ref q_8, .int x_6, .int x_7, .int x_8, .int x_9, .long g_10, .int x_11, .int x_12, .int x_13, .ref q_9, .int x_14, .ref q_10, .ref q_11, .int x_15, .ref q_12, .ref q_13, .int x_16, .int x_17, .ref q_14, .ref q_15, .ref q_16, .ref q_17, .int x_18, .long g_19, .long g_20, .int x_21, .int x_22, .int x_23, .int x_24, .ref q_18, .ref q_19, .int x_25, .int x_26, .int x_27, .int x_28, .ref q_20, .ref q_21, .int x_29, .int x_30, .ref q_22, .ref q_23, .ref q_24, .ref q_25, .int x_31, .int x_32, .int x_33])), (q_1, .inl (k 0, 27101, .inl (fun _ => 0)))] := hD
  refine lv_if_eq (tgt := 46) hx hb dX12_isOn_10 (by decide) (fun _ => ?_) (fun c2 => absurd (by decide) c2)
  refine lv_iconst (v := (-1)) hx hb dX12_isOn_46 (by decide) ?_
  exact z_iret C0 hr hlk rfl hK hP hD hS (0, fun _ => 0) ⟨rfl, rfl⟩ [] rfl rfl rfl dX12_isOn_47

set_option maxHeartbeats 4000000 in
set_option maxRecDepth 100000 in
theorem c_X11_isNoHalf_1 (l : Launch) (D : va_G) (k : Nat → ClassId) (x_0 : Int32) : zMi l yX11_isNoHalf cX11_isNoHalf 1 (some .boolean) ({ frames := 0, cells := 0, slots := 0, locals := 0 }) D k [.int x_0] [] (fun r u => (u.1 = 0 ∧ r = 1 ∧ ((x_0 < 0) ∨ (¬ x_0 < 0 ∧ ¬ x_0 < 800))) ∨ (u.1 = 1 ∧ r = 0 ∧ ((¬ x_0 < 0 ∧ x_0 < 800)))) (fun u => []) := by
  refine zMi_of (own := RX11) (by decide +kernel) rfl (Nat.le_of_ble_eq_true rfl) ?_
  intro p e s m args below meth c A ls C0 hr hlk hin hP hD hS hA hK hN hl
  have hx := C0.1
  have hb := C0.2.1
  have hml := C0.2.2.1
  have hown := C0.2.2.2.1
  have hts := C0.2.2.2.2
  have hl : lv_has ls 1 [(0, .int x_0)] := hl
  have hP : va_P D vwCl [] s.heap := hP
  refine lv_iload_n hx hb dX11_isNoHalf_0 rfl (lv_at hl 0 rfl) ?_
  refine lv_if_lt (tgt := 11) hx hb dX11_isNoHalf_1 (by decide) (fun c1 => ?_) (fun c1 => ?_)
  · refine lv_iconst (v := 1) hx hb dX11_isNoHalf_11 (by decide) ?_
    refine lv_goto (tgt := 16) hx hb dX11_isNoHalf_12 (by decide) ?_
    exact z_iret C0 hr hlk rfl hK hP hD hS (0, fun _ => 0) (Or.inl ⟨rfl, rfl, (Or.inl c1)⟩) [] rfl rfl rfl dX11_isNoHalf_16
  · refine lv_iload_n hx hb dX11_isNoHalf_4 rfl (lv_at hl 0 rfl) ?_
    refine lv_sipush (v := 800) hx hb dX11_isNoHalf_5 (by decide) ?_
    refine lv_icmp_lt (tgt := 15) hx hb dX11_isNoHalf_8 (by decide) (fun c2 => ?_) (fun c2 => ?_)
    · refine lv_iconst (v := 0) hx hb dX11_isNoHalf_15 (by decide) ?_
      exact z_iret C0 hr hlk rfl hK hP hD hS (1, fun _ => 0) (Or.inr (⟨rfl, rfl, ⟨c1, c2⟩⟩)) [] rfl rfl rfl dX11_isNoHalf_16
    · refine lv_iconst (v := 1) hx hb dX11_isNoHalf_11 (by decide) ?_
      refine lv_goto (tgt := 16) hx hb dX11_isNoHalf_12 (by decide) ?_
      exact z_iret C0 hr hlk rfl hK hP hD hS (0, fun _ => 0) (Or.inl ⟨rfl, rfl, (Or.inr (⟨c1, c2⟩))⟩) [] rfl rfl rfl dX11_isNoHalf_16

set_option maxHeartbeats 4000000 in
set_option maxRecDepth 100000 in
theorem c_X6_hasFailed_1 (l : Launch) (D : va_G) (k : Nat → ClassId) (q_0 : Nat) (q_1 : Nat) (q_2 : Nat) (q_3 : Nat) (q_4 : Nat) (q_5 : Nat) (q_6 : Nat) (q_7 : Nat) (q_8 : Nat) (q_9 : Nat) (q_10 : Nat) (q_11 : Nat) (q_12 : Nat) (x_0 : Int32) (x_1 : Int32) (x_2 : Int32) (x_3 : Int32) : zMi l yX6_hasFailed cX6_hasFailed 4 (some .boolean) ({ frames := 0, cells := 0, slots := 0, locals := 0 }) D k [.ref q_0, .int x_0, .int x_1] [(q_0, .inr (6, [.int x_2, .ref q_1, .ref q_2, .ref q_3, .ref q_4, .ref q_5, .int x_3, .ref q_6, .int 0, .ref q_7, .ref q_8, .ref q_9, .ref q_10, .ref q_11, .ref q_12]))] (fun r u => u.1 = 0 ∧ r = 0) (fun u => [(q_0, .inr (6, [.int x_2, .ref q_1, .ref q_2, .ref q_3, .ref q_4, .ref q_5, .int x_3, .ref q_6, .int 0, .ref q_7, .ref q_8, .ref q_9, .ref q_10, .ref q_11, .ref q_12]))]) := by
  refine zMi_of (own := RX6) (by decide +kernel) rfl (Nat.le_of_ble_eq_true rfl) ?_
  intro p e s m args below meth c A ls C0 hr hlk hin hP hD hS hA hK hN hl
  have hx := C0.1
  have hb := C0.2.1
  have hml := C0.2.2.1
  have hown := C0.2.2.2.1
  have hts := C0.2.2.2.2
  have hl : lv_has ls 4 [(0, .ref q_0), (1, .int x_0), (2, .int x_1)] := hl
  have hP : va_P D vwCl [(q_0, .inr (6, [.int x_2, .ref q_1, .ref q_2, .ref q_3, .ref q_4, .ref q_5, .int x_3, .ref q_6, .int 0, .ref q_7, .ref q_8, .ref q_9, .ref q_10, .ref q_11, .ref q_12]))] s.heap := hP
  refine lv_iconst (v := 0) hx hb dX6_hasFailed_0 (by decide) ?_
  refine lv_istore_n (lv' := [(3, .int 0), (0, .ref q_0), (1, .int x_0), (2, .int x_1)]) hx hb dX6_hasFailed_1 rfl hl (by decide) rfl (fun ls hl => ?_)
  refine lv_iload_n hx hb dX6_hasFailed_2 rfl (lv_at hl 0 rfl) ?_
  refine lv_aload_n hx hb dX6_hasFailed_3 rfl (lv_at hl 1 rfl) ?_
  refine va_get (D := D) (ci := 6) (v := .int 0) (C := RX6) (T := TX6) (N := 15) hx hb hts inX6 hown hK hP 0 rfl rfl 8 (by decide) (hts _ kF_X6_55) (fun _ h9 => h9) rfl dX6_hasFailed_4 ?_
  refine lv_icmp_ge (tgt := 38) hx hb dX6_hasFailed_7 (by decide) (fun _ => ?_) (fun c1 => absurd (by decide) c1)
  refine lv_iconst (v := 0) hx hb dX6_hasFailed_38 (by decide) ?_
  exact z_iret C0 hr hlk rfl hK hP hD hS (0, fun _ => 0) ⟨rfl, rfl⟩ [0] rfl rfl rfl dX6_hasFailed_39

set_option maxHeartbeats 4000000 in
set_option maxRecDepth 100000 in
theorem c_X6_addBus_1 (l : Launch) (D : va_G) (k : Nat → ClassId) (q_0 : Nat) (q_1 : Nat) (q_2 : Nat) (q_3 : Nat) (q_4 : Nat) (q_5 : Nat) (q_6 : Nat) (q_7 : Nat) (q_8 : Nat) (q_9 : Nat) (q_10 : Nat) (q_11 : Nat) (q_12 : Nat) (x_0 : Int32) (x_1 : Int32) (x_2 : Int32) (x_3 : Int32) (f_0 : Nat → Int32) (f_1 : Nat → Int32) : zMi l yX6_addBus cX6_addBus 3 (some .int) ({ frames := 0, cells := 0, slots := 0, locals := 0 }) D k [.ref q_0, .int x_0, .int x_1] [(q_0, .inr (6, [.int x_2, .ref q_3, .ref q_4, .ref q_5, .ref q_6, .ref q_7, .int x_3, .ref q_8, .int 0, .ref q_1, .ref q_2, .ref q_9, .ref q_10, .ref q_11, .ref q_12])), (q_1, .inl (k 0, 60, .inl f_0)), (q_2, .inl (k 0, 60, .inl f_1))] (fun r u => u.1 = 0 ∧ r = 1) (fun u => [(q_0, .inr (6, [.int x_2, .ref q_3, .ref q_4, .ref q_5, .ref q_6, .ref q_7, .int x_3, .ref q_8, .int 1, .ref q_1, .ref q_2, .ref q_9, .ref q_10, .ref q_11, .ref q_12])), (q_1, .inl (k 0, 60, .inl (upd f_0 0 x_0))), (q_2, .inl (k 0, 60, .inl (upd f_1 0 x_1)))]) := by
  refine zMi_of (own := RX6) (by decide +kernel) rfl (Nat.le_of_ble_eq_true rfl) ?_
  intro p e s m args below meth c A ls C0 hr hlk hin hP hD hS hA hK hN hl
  have hx := C0.1
  have hb := C0.2.1
  have hml := C0.2.2.1
  have hown := C0.2.2.2.1
  have hts := C0.2.2.2.2
  have hl : lv_has ls 3 [(0, .ref q_0), (1, .int x_0), (2, .int x_1)] := hl
  have hP : va_P D vwCl [(q_0, .inr (6, [.int x_2, .ref q_3, .ref q_4, .ref q_5, .ref q_6, .ref q_7, .int x_3, .ref q_8, .int 0, .ref q_1, .ref q_2, .ref q_9, .ref q_10, .ref q_11, .ref q_12])), (q_1, .inl (k 0, 60, .inl f_0)), (q_2, .inl (k 0, 60, .inl f_1))] s.heap := hP
  refine lv_aload_n hx hb dX6_addBus_0 rfl (lv_at hl 0 rfl) ?_
  refine va_get (D := D) (ci := 6) (v := .ref q_1) (C := RX6) (T := TX6) (N := 15) hx hb hts inX6 hown hK hP 0 rfl rfl 9 (by decide) (hts _ kF_X6_30) (fun _ h9 => h9) rfl dX6_addBus_1 ?_
  refine lv_aload_n hx hb dX6_addBus_4 rfl (lv_at hl 0 rfl) ?_
  refine va_get (D := D) (ci := 6) (v := .int 0) (C := RX6) (T := TX6) (N := 15) hx hb hts inX6 hown hK hP 0 rfl rfl 8 (by decide) (hts _ kF_X6_55) (fun _ h9 => h9) rfl dX6_addBus_5 ?_
  refine lv_iload_n hx hb dX6_addBus_8 rfl (lv_at hl 1 rfl) ?_
  refine va_iast hx hb hK hP hD hS 1 0 rfl rfl (by unfold vp_in; decide) dX6_addBus_9 (fun H locs hP hD hS => ?_)
  have hP : va_P D vwCl [(q_0, .inr (6, [.int x_2, .ref q_3, .ref q_4, .ref q_5, .ref q_6, .ref q_7, .int x_3, .ref q_8, .int 0, .ref q_1, .ref q_2, .ref q_9, .ref q_10, .ref q_11, .ref q_12])), (q_1, .inl (k 0, 60, .inl (upd f_0 0 x_0))), (q_2, .inl (k 0, 60, .inl f_1))] H := hP
  have hD : va_D A [(q_0, .inr (6, [.int x_2, .ref q_3, .ref q_4, .ref q_5, .ref q_6, .ref q_7, .int x_3, .ref q_8, .int 0, .ref q_1, .ref q_2, .ref q_9, .ref q_10, .ref q_11, .ref q_12])), (q_1, .inl (k 0, 60, .inl (upd f_0 0 x_0))), (q_2, .inl (k 0, 60, .inl f_1))] := hD
  refine lv_aload_n hx hb dX6_addBus_10 rfl (lv_at hl 0 rfl) ?_
  refine va_get (D := D) (ci := 6) (v := .ref q_2) (C := RX6) (T := TX6) (N := 15) hx hb hts inX6 hown hK hP 0 rfl rfl 10 (by decide) (hts _ kF_X6_33) (fun _ h9 => h9) rfl dX6_addBus_11 ?_
  refine lv_aload_n hx hb dX6_addBus_14 rfl (lv_at hl 0 rfl) ?_
  refine va_get (D := D) (ci := 6) (v := .int 0) (C := RX6) (T := TX6) (N := 15) hx hb hts inX6 hown hK hP 0 rfl rfl 8 (by decide) (hts _ kF_X6_55) (fun _ h9 => h9) rfl dX6_addBus_15 ?_
  refine lv_iload_n hx hb dX6_addBus_18 rfl (lv_at hl 2 rfl) ?_
  refine va_iast hx hb hK hP hD hS 2 0 rfl rfl (by unfold vp_in; decide) dX6_addBus_19 (fun H locs hP hD hS => ?_)
  have hP : va_P D vwCl [(q_0, .inr (6, [.int x_2, .ref q_3, .ref q_4, .ref q_5, .ref q_6, .ref q_7, .int x_3, .ref q_8, .int 0, .ref q_1, .ref q_2, .ref q_9, .ref q_10, .ref q_11, .ref q_12])), (q_1, .inl (k 0, 60, .inl (upd f_0 0 x_0))), (q_2, .inl (k 0, 60, .inl (upd f_1 0 x_1)))] H := hP
  have hD : va_D A [(q_0, .inr (6, [.int x_2, .ref q_3, .ref q_4, .ref q_5, .ref q_6, .ref q_7, .int x_3, .ref q_8, .int 0, .ref q_1, .ref q_2, .ref q_9, .ref q_10, .ref q_11, .ref q_12])), (q_1, .inl (k 0, 60, .inl (upd f_0 0 x_0))), (q_2, .inl (k 0, 60, .inl (upd f_1 0 x_1)))] := hD
  refine lv_aload_n hx hb dX6_addBus_20 rfl (lv_at hl 0 rfl) ?_
  refine lv_dup hx hb dX6_addBus_21 rfl ?_
  refine va_get (D := D) (ci := 6) (v := .int 0) (C := RX6) (T := TX6) (N := 15) hx hb hts inX6 hown hK hP 0 rfl rfl 8 (by decide) (hts _ kF_X6_55) (fun _ h9 => h9) rfl dX6_addBus_22 ?_
  refine lv_iconst (v := 1) hx hb dX6_addBus_25 (by decide) ?_
  refine lv_iadd hx hb dX6_addBus_26 ?_
  refine lv_toc (v := 1) (by decide) ?_
  refine va_put (D := D) (ci := 6) (v := .int 1) (ty := .int) (C := RX6) (T := TX6) (N := 15) hx hb hts inX6 tyX6 tyX6_ok nmX6 hown hK hP hD hS 0 rfl rfl 8 (by decide) (hts _ kF_X6_55) (fun _ h9 => h9) rfl (by decide +kernel) rfl rfl (Nat.le_of_ble_eq_true rfl) dX6_addBus_27 (fun H locs hP hD hS => ?_)
  have hP : va_P D vwCl [(q_0, .inr (6, [.int x_2, .ref q_3, .ref q_4, .ref q_5, .ref q_6, .ref q_7, .int x_3, .ref q_8, .int 1, .ref q_1, .ref q_2, .ref q_9, .ref q_10, .ref q_11, .ref q_12])), (q_1, .inl (k 0, 60, .inl (upd f_0 0 x_0))), (q_2, .inl (k 0, 60, .inl (upd f_1 0 x_1)))] H := hP
  have hD : va_D A [(q_0, .inr (6, [.int x_2, .ref q_3, .ref q_4, .ref q_5, .ref q_6, .ref q_7, .int x_3, .ref q_8, .int 1, .ref q_1, .ref q_2, .ref q_9, .ref q_10, .ref q_11, .ref q_12])), (q_1, .inl (k 0, 60, .inl (upd f_0 0 x_0))), (q_2, .inl (k 0, 60, .inl (upd f_1 0 x_1)))] := hD
  refine lv_aload_n hx hb dX6_addBus_30 rfl (lv_at hl 0 rfl) ?_
  refine va_get (D := D) (ci := 6) (v := .int 1) (C := RX6) (T := TX6) (N := 15) hx hb hts inX6 hown hK hP 0 rfl rfl 8 (by decide) (hts _ kF_X6_55) (fun _ h9 => h9) rfl dX6_addBus_31 ?_
  exact z_iret C0 hr hlk rfl hK hP hD hS (0, fun _ => 0) ⟨rfl, rfl⟩ [0, 1, 2] rfl rfl rfl dX6_addBus_34

set_option maxHeartbeats 4000000 in
set_option maxRecDepth 100000 in
theorem c_X11_answer_4 (l : Launch) (D : va_G) (k : Nat → ClassId) (q_0 : Nat) (q_1 : Nat) (q_2 : Nat) (q_3 : Nat) (q_4 : Nat) (q_5 : Nat) (x_0 : Int32) : zMi l yX11_answer cX11_answer 2 (some .int) ({ frames := 0, cells := 0, slots := 0, locals := 0 }) D k [.ref q_0, .int 1] [(q_0, .inr (11, [.ref q_1, .ref q_2, .ref q_3, .ref q_4, .ref q_5, .int x_0]))] (fun r u => u.1 = 0 ∧ r = 1) (fun u => [(q_0, .inr (11, [.ref q_1, .ref q_2, .ref q_3, .ref q_4, .ref q_5, .int 0]))]) := by
  refine zMi_of (own := RX11) (by decide +kernel) rfl (Nat.le_of_ble_eq_true rfl) ?_
  intro p e s m args below meth c A ls C0 hr hlk hin hP hD hS hA hK hN hl
  have hx := C0.1
  have hb := C0.2.1
  have hml := C0.2.2.1
  have hown := C0.2.2.2.1
  have hts := C0.2.2.2.2
  have hl : lv_has ls 2 [(0, .ref q_0), (1, .int 1)] := hl
  have hP : va_P D vwCl [(q_0, .inr (11, [.ref q_1, .ref q_2, .ref q_3, .ref q_4, .ref q_5, .int x_0]))] s.heap := hP
  refine lv_aload_n hx hb dX11_answer_0 rfl (lv_at hl 0 rfl) ?_
  refine lv_iload_n hx hb dX11_answer_1 rfl (lv_at hl 1 rfl) ?_
  refine lv_if_ge (tgt := 9) hx hb dX11_answer_2 (by decide) (fun _ => ?_) (fun c1 => absurd (by decide) c1)
  refine lv_iconst (v := 0) hx hb dX11_answer_9 (by decide) ?_
  refine va_put (D := D) (ci := 11) (v := .int 0) (ty := .int) (C := RX11) (T := TX11) (N := 6) hx hb hts inX11 tyX11 tyX11_ok nmX11 hown hK hP hD hS 0 rfl rfl 5 (by decide) (hts _ kF_X11_383) (fun _ h9 => h9) rfl (by decide +kernel) rfl rfl (Nat.le_of_ble_eq_true rfl) dX11_answer_10 (fun H locs hP hD hS => ?_)
  have hP : va_P D vwCl [(q_0, .inr (11, [.ref q_1, .ref q_2, .ref q_3, .ref q_4, .ref q_5, .int 0]))] H := hP
  have hD : va_D A [(q_0, .inr (11, [.ref q_1, .ref q_2, .ref q_3, .ref q_4, .ref q_5, .int 0]))] := hD
  refine lv_iload_n hx hb dX11_answer_13 rfl (lv_at hl 1 rfl) ?_
  exact z_iret C0 hr hlk rfl hK hP hD hS (0, fun _ => 0) ⟨rfl, rfl⟩ [0] rfl rfl rfl dX11_answer_14

set_option maxHeartbeats 4000000 in
set_option maxRecDepth 100000 in
theorem c_X11_failed_1 (l : Launch) (D : va_G) (k : Nat → ClassId) (q_0 : Nat) (q_1 : Nat) (q_2 : Nat) (q_3 : Nat) (q_4 : Nat) (q_5 : Nat) (q_6 : Nat) (q_7 : Nat) (q_8 : Nat) (q_9 : Nat) (q_10 : Nat) (q_11 : Nat) (q_12 : Nat) (q_13 : Nat) (q_14 : Nat) (q_15 : Nat) (q_16 : Nat) (q_17 : Nat) (q_18 : Nat) (q_19 : Nat) (q_20 : Nat) (q_21 : Nat) (q_22 : Nat) (q_23 : Nat) (x_0 : Int32) (x_1 : Int32) (x_2 : Int32) (x_3 : Int32) (x_4 : Int32) (f_0 : Nat → Int32) (f_1 : Nat → Int32) : zMi l yX11_failed cX11_failed 4 (some .int) ({ frames := 1, cells := 0, slots := 0, locals := 23 }) D k [.ref q_0, .int x_0, .int x_1] [(q_0, .inr (11, [.ref q_1, .ref q_5, .ref q_6, .ref q_7, .ref q_8, .int x_2])), (q_1, .inr (3, [.ref q_2, .ref q_9, .ref q_10, .ref q_11, .ref q_12, .ref q_13])), (q_2, .inr (6, [.int x_3, .ref q_14, .ref q_15, .ref q_16, .ref q_17, .ref q_18, .int x_4, .ref q_19, .int 0, .ref q_3, .ref q_4, .ref q_20, .ref q_21, .ref q_22, .ref q_23])), (q_3, .inl (k 0, 60, .inl f_0)), (q_4, .inl (k 0, 60, .inl f_1))] (fun r u => (u.1 = 0 ∧ r = (-1) ∧ ((((x_0 < 0) ∨ (¬ x_0 < 0 ∧ ¬ x_0 ≤ 7))) ∨ (((¬ x_0 < 0 ∧ x_0 ≤ 7)) ∧ ((x_1 < 0) ∨ (¬ x_1 < 0 ∧ ¬ x_1 < 800))))) ∨ (u.1 = 1 ∧ r = 1 ∧ ((((¬ x_0 < 0 ∧ x_0 ≤ 7)) ∧ ((¬ x_1 < 0 ∧ x_1 < 800)))))) (fun u => []) := by
  refine zMi_of (own := RX11) (by decide +kernel) rfl (Nat.le_of_ble_eq_true rfl) ?_
  intro p e s m args below meth c A ls C0 hr hlk hin hP hD hS hA hK hN hl
  have hx := C0.1
  have hb := C0.2.1
  have hml := C0.2.2.1
  have hown := C0.2.2.2.1
  have hts := C0.2.2.2.2
  have hl : lv_has ls 4 [(0, .ref q_0), (1, .int x_0), (2, .int x_1)] := hl
  have hP : va_P D vwCl [(q_0, .inr (11, [.ref q_1, .ref q_5, .ref q_6, .ref q_7, .ref q_8, .int x_2])), (q_1, .inr (3, [.ref q_2, .ref q_9, .ref q_10, .ref q_11, .ref q_12, .ref q_13])), (q_2, .inr (6, [.int x_3, .ref q_14, .ref q_15, .ref q_16, .ref q_17, .ref q_18, .int x_4, .ref q_19, .int 0, .ref q_3, .ref q_4, .ref q_20, .ref q_21, .ref q_22, .ref q_23])), (q_3, .inl (k 0, 60, .inl f_0)), (q_4, .inl (k 0, 60, .inl f_1))] s.heap := hP
  refine lv_aload_n hx hb dX11_failed_0 rfl (lv_at hl 0 rfl) ?_
  refine va_get (D := D) (ci := 11) (v := .ref q_1) (C := RX11) (T := TX11) (N := 6) hx hb hts inX11 hown hK hP 0 rfl rfl 0 (by decide) (hts _ kF_X11_12) (fun _ h9 => h9) rfl dX11_failed_1 ?_
  refine va_get (D := D) (ci := 3) (v := .ref q_2) (C := RX3) (T := TX3) (N := 6) hx hb hts inX3 hown hK hP 1 rfl rfl 0 (by decide) (hts _ kF_X11_43) (fun _ h9 => h9) rfl dX11_failed_4 ?_
  refine lv_astore_n (lv' := [(3, .ref q_2), (0, .ref q_0), (1, .int x_0), (2, .int x_1)]) hx hb dX11_failed_7 rfl hl (by decide) rfl (fun ls hl => ?_)
  refine lv_iload_n hx hb dX11_failed_8 rfl (lv_at hl 2 rfl) ?_
  refine lv_iconst (v := 0) hx hb dX11_failed_9 (by decide) ?_
  refine lv_bipush (v := 7) hx hb dX11_failed_10 (by decide) ?_
  refine z_bi0 (z_runS (As := [.int x_0, .int 0, .int 7]) (rest := []) C0 (c_X11_isOutside_1 l D k x_0 0 7 _) okS_X11_isOutside kM_X11_47 rfl (z_p0 hK hN) rfl hl.1 rfl (Nat.le_of_ble_eq_true rfl) dX11_failed_12 rfl) hP hS hA (fun r1 u1 H locs hw1 hP hS => ?_)
  obtain ⟨i1, a1⟩ := u1
  dsimp only at hw1
  rcases hw1 with ⟨rfl, rfl, c1⟩ | ⟨rfl, rfl, c1⟩
  · refine lv_if_ne (tgt := 25) hx hb dX11_failed_15 (by decide) (fun _ => ?_) (fun c2 => absurd c2 (by decide))
    refine lv_aload_n hx hb dX11_failed_25 rfl (lv_at hl 1 rfl) ?_
    refine lv_iconst (v := (-1)) hx hb dX11_failed_26 (by decide) ?_
    refine z_bi (wr := [(q_1, .inr (3, [.ref q_2, .ref q_9, .ref q_10, .ref q_11, .ref q_12, .ref q_13])), (q_2, .inr (6, [.int x_3, .ref q_14, .ref q_15, .ref q_16, .ref q_17, .ref q_18, .int x_4, .ref q_19, .int 0, .ref q_3, .ref q_4, .ref q_20, .ref q_21, .ref q_22, .ref q_23])), (q_3, .inl (k 0, 60, .inl f_0)), (q_4, .inl (k 0, 60, .inl f_1))]) (z_runV (C := RX11) (As := [.int (-1)]) (rest := []) C0 (c_X11_answer_1 l D k q_0 q_1 q_5 q_6 q_7 q_8 x_2 _) okV_X11_answer kM_X11_55 rfl (z_pV (q0 := 0) hK hN hP hD [0] rfl rfl rfl rfl rfl) rfl hl.1 rfl (Nat.le_of_ble_eq_true rfl) dX11_failed_27 rfl) hP hD hS hA [0] [1, 2, 3, 4] rfl rfl rfl rfl (fun r3 u3 H locs hw3 hP hD hS => ?_)
    obtain ⟨i3, a3⟩ := u3
    dsimp only at hw3
    obtain ⟨rfl, rfl⟩ := hw3
    have hP : va_P D vwCl [(q_1, .inr (3, [.ref q_2, .ref q_9, .ref q_10, .ref q_11, .ref q_12, .ref q_13])), (q_2, .inr (6, [.int x_3, .ref q_14, .ref q_15, .ref q_16, .ref q_17, .ref q_18, .int x_4, .ref q_19, .int 0, .ref q_3, .ref q_4, .ref q_20, .ref q_21, .ref q_22, .ref q_23])), (q_3, .inl (k 0, 60, .inl f_0)), (q_4, .inl (k 0, 60, .inl f_1)), (q_0, .inr (11, [.ref q_1, .ref q_5, .ref q_6, .ref q_7, .ref q_8, .int (-1)]))] H := hP
    have hD : va_D A [(q_1, .inr (3, [.ref q_2, .ref q_9, .ref q_10, .ref q_11, .ref q_12, .ref q_13])), (q_2, .inr (6, [.int x_3, .ref q_14, .ref q_15, .ref q_16, .ref q_17, .ref q_18, .int x_4, .ref q_19, .int 0, .ref q_3, .ref q_4, .ref q_20, .ref q_21, .ref q_22, .ref q_23])), (q_3, .inl (k 0, 60, .inl f_0)), (q_4, .inl (k 0, 60, .inl f_1)), (q_0, .inr (11, [.ref q_1, .ref q_5, .ref q_6, .ref q_7, .ref q_8, .int (-1)]))] := hD
    exact z_iret C0 hr hlk rfl hK hP hD hS (0, fun _ => 0) (Or.inl ⟨rfl, rfl, (Or.inl c1)⟩) [] rfl rfl rfl dX11_failed_30
  · refine lv_if_ne (tgt := 25) hx hb dX11_failed_15 (by decide) (fun c4 => absurd (by decide) c4) (fun _ => ?_)
    refine lv_iload_n hx hb dX11_failed_18 rfl (lv_at hl 3 rfl) ?_
    refine z_bi0 (z_runS (As := [.int x_1]) (rest := []) C0 (c_X11_isNoHalf_1 l D k x_1 _) okS_X11_isNoHalf kM_X11_118 rfl (z_p0 hK hN) rfl hl.1 rfl (Nat.le_of_ble_eq_true rfl) dX11_failed_19 rfl) hP hS hA (fun r5 u5 H locs hw5 hP hS => ?_)
    obtain ⟨i5, a5⟩ := u5
    dsimp only at hw5
    rcases hw5 with ⟨rfl, rfl, c5⟩ | ⟨rfl, rfl, c5⟩
    · refine lv_if_eq (tgt := 31) hx hb dX11_failed_22 (by decide) (fun c6 => absurd c6 (by decide)) (fun _ => ?_)
      refine lv_aload_n hx hb dX11_failed_25 rfl (lv_at hl 1 rfl) ?_
      refine lv_iconst (v := (-1)) hx hb dX11_failed_26 (by decide) ?_
      refine z_bi (wr := [(q_1, .inr (3, [.ref q_2, .ref q_9, .ref q_10, .ref q_11, .ref q_12, .ref q_13])), (q_2, .inr (6, [.int x_3, .ref q_14, .ref q_15, .ref q_16, .ref q_17, .ref q_18, .int x_4, .ref q_19, .int 0, .ref q_3, .ref q_4, .ref q_20, .ref q_21, .ref q_22, .ref q_23])), (q_3, .inl (k 0, 60, .inl f_0)), (q_4, .inl (k 0, 60, .inl f_1))]) (z_runV (C := RX11) (As := [.int (-1)]) (rest := []) C0 (c_X11_answer_1 l D k q_0 q_1 q_5 q_6 q_7 q_8 x_2 _) okV_X11_answer kM_X11_55 rfl (z_pV (q0 := 0) hK hN hP hD [0] rfl rfl rfl rfl rfl) rfl hl.1 rfl (Nat.le_of_ble_eq_true rfl) dX11_failed_27 rfl) hP hD hS hA [0] [1, 2, 3, 4] rfl rfl rfl rfl (fun r7 u7 H locs hw7 hP hD hS => ?_)
      obtain ⟨i7, a7⟩ := u7
      dsimp only at hw7
      obtain ⟨rfl, rfl⟩ := hw7
      have hP : va_P D vwCl [(q_1, .inr (3, [.ref q_2, .ref q_9, .ref q_10, .ref q_11, .ref q_12, .ref q_13])), (q_2, .inr (6, [.int x_3, .ref q_14, .ref q_15, .ref q_16, .ref q_17, .ref q_18, .int x_4, .ref q_19, .int 0, .ref q_3, .ref q_4, .ref q_20, .ref q_21, .ref q_22, .ref q_23])), (q_3, .inl (k 0, 60, .inl f_0)), (q_4, .inl (k 0, 60, .inl f_1)), (q_0, .inr (11, [.ref q_1, .ref q_5, .ref q_6, .ref q_7, .ref q_8, .int (-1)]))] H := hP
      have hD : va_D A [(q_1, .inr (3, [.ref q_2, .ref q_9, .ref q_10, .ref q_11, .ref q_12, .ref q_13])), (q_2, .inr (6, [.int x_3, .ref q_14, .ref q_15, .ref q_16, .ref q_17, .ref q_18, .int x_4, .ref q_19, .int 0, .ref q_3, .ref q_4, .ref q_20, .ref q_21, .ref q_22, .ref q_23])), (q_3, .inl (k 0, 60, .inl f_0)), (q_4, .inl (k 0, 60, .inl f_1)), (q_0, .inr (11, [.ref q_1, .ref q_5, .ref q_6, .ref q_7, .ref q_8, .int (-1)]))] := hD
      exact z_iret C0 hr hlk rfl hK hP hD hS (0, fun _ => 0) (Or.inl ⟨rfl, rfl, (Or.inr (⟨c1, c5⟩))⟩) [] rfl rfl rfl dX11_failed_30
    · refine lv_if_eq (tgt := 31) hx hb dX11_failed_22 (by decide) (fun _ => ?_) (fun c8 => absurd (by decide) c8)
      refine lv_aload_n hx hb dX11_failed_31 rfl (lv_at hl 0 rfl) ?_
      refine lv_iload_n hx hb dX11_failed_32 rfl (lv_at hl 2 rfl) ?_
      refine lv_iload_n hx hb dX11_failed_33 rfl (lv_at hl 3 rfl) ?_
      refine z_bi (wr := [(q_0, .inr (11, [.ref q_1, .ref q_5, .ref q_6, .ref q_7, .ref q_8, .int x_2])), (q_1, .inr (3, [.ref q_2, .ref q_9, .ref q_10, .ref q_11, .ref q_12, .ref q_13])), (q_3, .inl (k 0, 60, .inl f_0)), (q_4, .inl (k 0, 60, .inl f_1))]) (z_runV (C := RX6) (As := [.int x_0, .int x_1]) (rest := []) C0 (c_X6_hasFailed_1 l D k q_2 q_14 q_15 q_16 q_17 q_18 q_19 q_3 q_4 q_20 q_21 q_22 q_23 x_0 x_1 x_3 x_4 _) okV_X6_hasFailed kM_X11_121 rfl (z_pV (q0 := 2) hK hN hP hD [2] rfl rfl rfl rfl rfl) rfl hl.1 rfl (Nat.le_of_ble_eq_true rfl) dX11_failed_34 rfl) hP hD hS hA [2] [0, 1, 3, 4] rfl rfl rfl rfl (fun r9 u9 H locs hw9 hP hD hS => ?_)
      obtain ⟨i9, a9⟩ := u9
      dsimp only at hw9
      obtain ⟨rfl, rfl⟩ := hw9
      have hP : va_P D vwCl [(q_0, .inr (11, [.ref q_1, .ref q_5, .ref q_6, .ref q_7, .ref q_8, .int x_2])), (q_1, .inr (3, [.ref q_2, .ref q_9, .ref q_10, .ref q_11, .ref q_12, .ref q_13])), (q_3, .inl (k 0, 60, .inl f_0)), (q_4, .inl (k 0, 60, .inl f_1)), (q_2, .inr (6, [.int x_3, .ref q_14, .ref q_15, .ref q_16, .ref q_17, .ref q_18, .int x_4, .ref q_19, .int 0, .ref q_3, .ref q_4, .ref q_20, .ref q_21, .ref q_22, .ref q_23]))] H := hP
      have hD : va_D A [(q_0, .inr (11, [.ref q_1, .ref q_5, .ref q_6, .ref q_7, .ref q_8, .int x_2])), (q_1, .inr (3, [.ref q_2, .ref q_9, .ref q_10, .ref q_11, .ref q_12, .ref q_13])), (q_3, .inl (k 0, 60, .inl f_0)), (q_4, .inl (k 0, 60, .inl f_1)), (q_2, .inr (6, [.int x_3, .ref q_14, .ref q_15, .ref q_16, .ref q_17, .ref q_18, .int x_4, .ref q_19, .int 0, .ref q_3, .ref q_4, .ref q_20, .ref q_21, .ref q_22, .ref q_23]))] := hD
      refine lv_if_eq (tgt := 47) hx hb dX11_failed_37 (by decide) (fun _ => ?_) (fun c10 => absurd (by decide) c10)
      refine lv_aload_n hx hb dX11_failed_47 rfl (lv_at hl 0 rfl) ?_
      refine va_get (D := D) (ci := 6) (v := .int 0) (C := RX6) (T := TX6) (N := 15) hx hb hts inX6 hown hK hP 4 rfl rfl 8 (by decide) (hts _ kF_X11_124) (fun _ h9 => h9) rfl dX11_failed_48 ?_
      refine lv_bipush (v := 60) hx hb dX11_failed_51 (by decide) ?_
      refine lv_icmp_lt (tgt := 63) hx hb dX11_failed_53 (by decide) (fun _ => ?_) (fun c11 => absurd (by decide) c11)
      refine lv_aload_n hx hb dX11_failed_63 rfl (lv_at hl 1 rfl) ?_
      refine lv_aload_n hx hb dX11_failed_64 rfl (lv_at hl 0 rfl) ?_
      refine lv_iload_n hx hb dX11_failed_65 rfl (lv_at hl 2 rfl) ?_
      refine lv_iload_n hx hb dX11_failed_66 rfl (lv_at hl 3 rfl) ?_
      refine z_bi (wr := [(q_0, .inr (11, [.ref q_1, .ref q_5, .ref q_6, .ref q_7, .ref q_8, .int x_2])), (q_1, .inr (3, [.ref q_2, .ref q_9, .ref q_10, .ref q_11, .ref q_12, .ref q_13]))]) (z_runV (C := RX6) (As := [.int x_0, .int x_1]) (rest := [.ref q_0]) C0 (c_X6_addBus_1 l D k q_2 q_3 q_4 q_14 q_15 q_16 q_17 q_18 q_19 q_20 q_21 q_22 q_23 x_0 x_1 x_3 x_4 f_0 f_1 _) okV_X6_addBus kM_X11_127 rfl (z_pV (q0 := 4) hK hN hP hD [4, 2, 3] rfl rfl rfl rfl rfl) rfl hl.1 rfl (Nat.le_of_ble_eq_true rfl) dX11_failed_67 rfl) hP hD hS hA [4, 2, 3] [0, 1] rfl rfl rfl rfl (fun r12 u12 H locs hw12 hP hD hS => ?_)
      obtain ⟨i12, a12⟩ := u12
      dsimp only at hw12
      obtain ⟨rfl, rfl⟩ := hw12
      have hP : va_P D vwCl [(q_0, .inr (11, [.ref q_1, .ref q_5, .ref q_6, .ref q_7, .ref q_8, .int x_2])), (q_1, .inr (3, [.ref q_2, .ref q_9, .ref q_10, .ref q_11, .ref q_12, .ref q_13])), (q_2, .inr (6, [.int x_3, .ref q_14, .ref q_15, .ref q_16, .ref q_17, .ref q_18, .int x_4, .ref q_19, .int 1, .ref q_3, .ref q_4, .ref q_20, .ref q_21, .ref q_22, .ref q_23])), (q_3, .inl (k 0, 60, .inl (upd f_0 0 x_0))), (q_4, .inl (k 0, 60, .inl (upd f_1 0 x_1)))] H := hP
      have hD : va_D A [(q_0, .inr (11, [.ref q_1, .ref q_5, .ref q_6, .ref q_7, .ref q_8, .int x_2])), (q_1, .inr (3, [.ref q_2, .ref q_9, .ref q_10, .ref q_11, .ref q_12, .ref q_13])), (q_2, .inr (6, [.int x_3, .ref q_14, .ref q_15, .ref q_16, .ref q_17, .ref q_18, .int x_4, .ref q_19, .int 1, .ref q_3, .ref q_4, .ref q_20, .ref q_21, .ref q_22, .ref q_23])), (q_3, .inl (k 0, 60, .inl (upd f_0 0 x_0))), (q_4, .inl (k 0, 60, .inl (upd f_1 0 x_1)))] := hD
      refine z_bi (wr := [(q_1, .inr (3, [.ref q_2, .ref q_9, .ref q_10, .ref q_11, .ref q_12, .ref q_13])), (q_2, .inr (6, [.int x_3, .ref q_14, .ref q_15, .ref q_16, .ref q_17, .ref q_18, .int x_4, .ref q_19, .int 1, .ref q_3, .ref q_4, .ref q_20, .ref q_21, .ref q_22, .ref q_23])), (q_3, .inl (k 0, 60, .inl (upd f_0 0 x_0))), (q_4, .inl (k 0, 60, .inl (upd f_1 0 x_1)))]) (z_runV (C := RX11) (As := [.int 1]) (rest := []) C0 (c_X11_answer_4 l D k q_0 q_1 q_5 q_6 q_7 q_8 x_2 _) okV_X11_answer kM_X11_55 rfl (z_pV (q0 := 0) hK hN hP hD [0] rfl rfl rfl rfl rfl) rfl hl.1 rfl (Nat.le_of_ble_eq_true rfl) dX11_failed_70 rfl) hP hD hS hA [0] [1, 2, 3, 4] rfl rfl rfl rfl (fun r13 u13 H locs hw13 hP hD hS => ?_)
      obtain ⟨i13, a13⟩ := u13
      dsimp only at hw13
      obtain ⟨rfl, rfl⟩ := hw13
      have hP : va_P D vwCl [(q_1, .inr (3, [.ref q_2, .ref q_9, .ref q_10, .ref q_11, .ref q_12, .ref q_13])), (q_2, .inr (6, [.int x_3, .ref q_14, .ref q_15, .ref q_16, .ref q_17, .ref q_18, .int x_4, .ref q_19, .int 1, .ref q_3, .ref q_4, .ref q_20, .ref q_21, .ref q_22, .ref q_23])), (q_3, .inl (k 0, 60, .inl (upd f_0 0 x_0))), (q_4, .inl (k 0, 60, .inl (upd f_1 0 x_1))), (q_0, .inr (11, [.ref q_1, .ref q_5, .ref q_6, .ref q_7, .ref q_8, .int 0]))] H := hP
      have hD : va_D A [(q_1, .inr (3, [.ref q_2, .ref q_9, .ref q_10, .ref q_11, .ref q_12, .ref q_13])), (q_2, .inr (6, [.int x_3, .ref q_14, .ref q_15, .ref q_16, .ref q_17, .ref q_18, .int x_4, .ref q_19, .int 1, .ref q_3, .ref q_4, .ref q_20, .ref q_21, .ref q_22, .ref q_23])), (q_3, .inl (k 0, 60, .inl (upd f_0 0 x_0))), (q_4, .inl (k 0, 60, .inl (upd f_1 0 x_1))), (q_0, .inr (11, [.ref q_1, .ref q_5, .ref q_6, .ref q_7, .ref q_8, .int 0]))] := hD
      exact z_iret C0 hr hlk rfl hK hP hD hS (1, fun _ => 0) (Or.inr (⟨rfl, rfl, ⟨c1, c5⟩⟩)) [] rfl rfl rfl dX11_failed_73

set_option maxHeartbeats 4000000 in
set_option maxRecDepth 100000 in
theorem c_X12_isHalf_1 (l : Launch) (D : va_G) (k : Nat → ClassId) (x_0 : Int32) : zMi l yX12_isHalf cX12_isHalf 1 (some .boolean) ({ frames := 1, cells := 0, slots := 0, locals := 25 }) D k [.int x_0] [] (fun r u => (u.1 = 0 ∧ r = 0 ∧ (((((Int32.toInt64 x_0) < 0) ∨ (¬ (Int32.toInt64 x_0) < 0 ∧ (799 : Int64) < (Int32.toInt64 x_0)))))) ∨ (u.1 = 1 ∧ r = 1 ∧ ((((¬ (Int32.toInt64 x_0) < 0 ∧ ¬ (799 : Int64) < (Int32.toInt64 x_0))))))) (fun u => []) := by
  refine zMi_of (own := RX12) (by decide +kernel) rfl (Nat.le_of_ble_eq_true rfl) ?_
  intro p e s m args below meth c A ls C0 hr hlk hin hP hD hS hA hK hN hl
  have hx := C0.1
  have hb := C0.2.1
  have hml := C0.2.2.1
  have hown := C0.2.2.2.1
  have hts := C0.2.2.2.2
  have hl : lv_has ls 1 [(0, .int x_0)] := hl
  have hP : va_P D vwCl [] s.heap := hP
  refine lv_iload_n hx hb dX12_isHalf_0 rfl (lv_at hl 0 rfl) ?_
  refine lv_i2l (v := (Int32.toInt64 x_0)) hx hb dX12_isHalf_1 rfl ?_
  refine lv_lconst (v := 0) hx hb dX12_isHalf_2 (by decide) ?_
  refine lv_ldc2 hx hb hown (hts _ kL_X12_104) dX12_isHalf_3 ?_
  refine z_bi0 (z_runS (As := [.long (Int32.toInt64 x_0), .long 0, .long 799]) (rest := []) C0 (c_X12_in_1 l D k (Int32.toInt64 x_0) 0 799 _) okS_X12_in kM_X12_100 rfl (z_p0 hK hN) rfl hl.1 rfl (Nat.le_of_ble_eq_true rfl) dX12_isHalf_6 rfl) hP hS hA (fun r1 u1 H locs hw1 hP hS => ?_)
  obtain ⟨i1, a1⟩ := u1
  dsimp only at hw1
  rcases hw1 with ⟨rfl, rfl, c1⟩ | ⟨rfl, rfl, c1⟩
  · exact z_iret C0 hr hlk rfl hK hP hD hS (0, fun _ => 0) (Or.inl ⟨rfl, rfl, c1⟩) [] rfl rfl rfl dX12_isHalf_9
  · exact z_iret C0 hr hlk rfl hK hP hD hS (1, fun _ => 0) (Or.inr (⟨rfl, rfl, c1⟩)) [] rfl rfl rfl dX12_isHalf_9

set_option maxHeartbeats 4000000 in
set_option maxRecDepth 100000 in
theorem c_X12_hasFailed_1 (l : Launch) (D : va_G) (k : Nat → ClassId) (q_0 : Nat) (q_1 : Nat) (q_2 : Nat) (q_3 : Nat) (q_4 : Nat) (q_5 : Nat) (q_6 : Nat) (q_7 : Nat) (q_8 : Nat) (q_9 : Nat) (q_10 : Nat) (q_11 : Nat) (q_12 : Nat) (q_13 : Nat) (q_14 : Nat) (q_15 : Nat) (q_16 : Nat) (q_17 : Nat) (q_18 : Nat) (q_19 : Nat) (q_20 : Nat) (q_21 : Nat) (q_22 : Nat) (q_23 : Nat) (q_24 : Nat) (q_25 : Nat) (x_0 : Int32) (x_1 : Int32) (x_2 : Int32) (x_3 : Int32) (x_4 : Int32) (x_5 : Int32) (x_6 : Int32) (x_7 : Int32) (x_8 : Int32) (g_9 : Int64) (x_10 : Int32) (x_11 : Int32) (x_12 : Int32) (x_13 : Int32) (x_14 : Int32) (x_15 : Int32) (x_16 : Int32) (x_17 : Int32) (g_18 : Int64) (g_19 : Int64) (x_20 : Int32) (x_21 : Int32) (x_22 : Int32) (x_23 : Int32) (x_24 : Int32) (x_25 : Int32) (x_26 : Int32) (x_27 : Int32) (x_28 : Int32) (x_29 : Int32) (x_30 : Int32) (x_31 : Int32) (x_32 : Int32) : zMi l yX12_hasFailed cX12_hasFailed 5 (some .boolean) ({ frames := 0, cells := 0, slots := 0, locals := 0 }) D k [.ref q_0, .int x_0, .int x_1] [(q_0, .inr (12, [.int x_2, .int x_3, .ref q_1, .ref q_2, .ref q_3, .int x_4, .ref q_4, .ref q_5, .ref q_6, .ref q_7, .ref q_8, .int x_5, .int x_6, .int x_7, .int x_8, .long g_9, .int x_10, .int x_11, .int x_12, .ref q_9, .int x_13, .ref q_10, .ref q_11, .int x_14, .ref q_12, .ref q_13, .int x_15, .int x_16, .ref q_14, .ref q_15, .ref q_16, .ref q_17, .int x_17, .long g_18, .long g_19, .int x_20, .int x_21, .int x_22, .int x_23, .ref q_18, .ref q_19, .int x_24, .int x_25, .int x_26, .int x_27, .ref q_20, .ref q_21, .int x_28, .int x_29, .ref q_22, .ref q_23, .ref q_24, .ref q_25, .int x_30, .int x_31, .int x_32])), (q_1, .inl (k 0, 27101, .inl (fun _ => 0)))] (fun r u => u.1 = 0 ∧ r = 0) (fun u => [(q_0, .inr (12, [.int x_2, .int x_3, .ref q_1, .ref q_2, .ref q_3, .int x_4, .ref q_4, .ref q_5, .ref q_6, .ref q_7, .ref q_8, .int x_5, .int x_6, .int x_7, .int x_8, .long g_9, .int x_10, .int x_11, .int x_12, .ref q_9, .int x_13, .ref q_10, .ref q_11, .int x_14, .ref q_12, .ref q_13, .int x_15, .int x_16, .ref q_14, .ref q_15, .ref q_16, .ref q_17, .int x_17, .long g_18, .long g_19, .int x_20, .int x_21, .int x_22, .int x_23, .ref q_18, .ref q_19, .int x_24, .int x_25, .int x_26, .int x_27, .ref q_20, .ref q_21, .int x_28, .int x_29, .ref q_22, .ref q_23, .ref q_24, .ref q_25, .int x_30, .int x_31, .int x_32])), (q_1, .inl (k 0, 27101, .inl (fun _ => 0)))]) := by
  refine zMi_of (own := RX12) (by decide +kernel) rfl (Nat.le_of_ble_eq_true rfl) ?_
  intro p e s m args below meth c A ls C0 hr hlk hin hP hD hS hA hK hN hl
  have hx := C0.1
  have hb := C0.2.1
  have hml := C0.2.2.1
  have hown := C0.2.2.2.1
  have hts := C0.2.2.2.2
  have hl : lv_has ls 5 [(0, .ref q_0), (1, .int x_0), (2, .int x_1)] := hl
  have hP : va_P D vwCl [(q_0, .inr (12, [.int x_2, .int x_3, .ref q_1, .ref q_2, .ref q_3, .int x_4, .ref q_4, .ref q_5, .ref q_6, .ref q_7, .ref q_8, .int x_5, .int x_6, .int x_7, .int x_8, .long g_9, .int x_10, .int x_11, .int x_12, .ref q_9, .int x_13, .ref q_10, .ref q_11, .int x_14, .ref q_12, .ref q_13, .int x_15, .int x_16, .ref q_14, .ref q_15, .ref q_16, .ref q_17, .int x_17, .long g_18, .long g_19, .int x_20, .int x_21, .int x_22, .int x_23, .ref q_18, .ref q_19, .int x_24, .int x_25, .int x_26, .int x_27, .ref q_20, .ref q_21, .int x_28, .int x_29, .ref q_22, .ref q_23, .ref q_24, .ref q_25, .int x_30, .int x_31, .int x_32])), (q_1, .inl (k 0, 27101, .inl (fun _ => 0)))] s.heap := hP
  refine lv_iconst (v := 0) hx hb dX12_hasFailed_0 (by decide) ?_
  refine lv_istore_n (lv' := [(3, .int 0), (0, .ref q_0), (1, .int x_0), (2, .int x_1)]) hx hb dX12_hasFailed_1 rfl hl (by decide) rfl (fun ls hl => ?_)
  refine lv_iconst (v := 0) hx hb dX12_hasFailed_2 (by decide) ?_
  refine lv_istore (lv' := [(4, .int 0), (3, .int 0), (0, .ref q_0), (1, .int x_0), (2, .int x_1)]) hx hb dX12_hasFailed_3 hl (by decide) rfl (fun ls hl => ?_)
  refine lv_iload hx hb dX12_hasFailed_5 (lv_at hl 0 rfl) ?_
  refine lv_aload_n hx hb dX12_hasFailed_7 rfl (lv_at hl 2 rfl) ?_
  refine va_get (D := D) (ci := 12) (v := .ref q_1) (C := RX12) (T := TX12) (N := 56) hx hb hts inX12 hown hK hP 0 rfl rfl 2 (by decide) (hts _ kF_X12_7) (fun _ h9 => h9) rfl dX12_hasFailed_8 ?_
  refine lv_bipush (v := 9) hx hb dX12_hasFailed_11 (by decide) ?_
  refine va_iald hx hb hK hP 1 0 rfl rfl (by unfold vp_in; decide) dX12_hasFailed_13 ?_
  refine lv_toc (v := 0) rfl ?_
  refine lv_icmp_ge (tgt := 69) hx hb dX12_hasFailed_14 (by decide) (fun _ => ?_) (fun c1 => absurd (by decide) c1)
  refine lv_iload_n hx hb dX12_hasFailed_69 rfl (lv_at hl 1 rfl) ?_
  exact z_iret C0 hr hlk rfl hK hP hD hS (0, fun _ => 0) ⟨rfl, rfl⟩ [0, 1] rfl rfl rfl dX12_hasFailed_70

set_option maxHeartbeats 4000000 in
set_option maxRecDepth 100000 in
theorem c_X12_told_4 (l : Launch) (D : va_G) (k : Nat → ClassId) (q_0 : Nat) (q_1 : Nat) (q_2 : Nat) (q_3 : Nat) (q_4 : Nat) (q_5 : Nat) (q_6 : Nat) (q_7 : Nat) (q_8 : Nat) (q_9 : Nat) (q_10 : Nat) (q_11 : Nat) (q_12 : Nat) (q_13 : Nat) (q_14 : Nat) (q_15 : Nat) (q_16 : Nat) (q_17 : Nat) (q_18 : Nat) (q_19 : Nat) (q_20 : Nat) (q_21 : Nat) (q_22 : Nat) (q_23 : Nat) (q_24 : Nat) (q_25 : Nat) (x_0 : Int32) (x_1 : Int32) (x_2 : Int32) (x_3 : Int32) (x_4 : Int32) (x_5 : Int32) (x_6 : Int32) (g_7 : Int64) (x_8 : Int32) (x_9 : Int32) (x_10 : Int32) (x_11 : Int32) (x_12 : Int32) (x_13 : Int32) (x_14 : Int32) (x_15 : Int32) (g_16 : Int64) (g_17 : Int64) (x_18 : Int32) (x_19 : Int32) (x_20 : Int32) (x_21 : Int32) (x_22 : Int32) (x_23 : Int32) (x_24 : Int32) (x_25 : Int32) (x_26 : Int32) (x_27 : Int32) (x_28 : Int32) (x_29 : Int32) (x_30 : Int32) : zMi l yX12_told cX12_told 2 (some .int) ({ frames := 0, cells := 0, slots := 0, locals := 0 }) D k [.ref q_0, .int 1] [(q_0, .inr (12, [.int x_0, .int x_1, .ref q_1, .ref q_2, .ref q_3, .int x_2, .ref q_4, .ref q_5, .ref q_6, .ref q_7, .ref q_8, .int x_3, .int x_4, .int x_5, .int x_6, .long g_7, .int x_8, .int x_9, .int x_10, .ref q_9, .int x_11, .ref q_10, .ref q_11, .int x_12, .ref q_12, .ref q_13, .int x_13, .int x_14, .ref q_14, .ref q_15, .ref q_16, .ref q_17, .int x_15, .long g_16, .long g_17, .int x_18, .int x_19, .int x_20, .int x_21, .ref q_18, .ref q_19, .int x_22, .int x_23, .int x_24, .int x_25, .ref q_20, .ref q_21, .int x_26, .int x_27, .ref q_22, .ref q_23, .ref q_24, .ref q_25, .int x_28, .int x_29, .int x_30]))] (fun r u => u.1 = 0 ∧ r = 1) (fun u => [(q_0, .inr (12, [.int x_0, .int 0, .ref q_1, .ref q_2, .ref q_3, .int x_2, .ref q_4, .ref q_5, .ref q_6, .ref q_7, .ref q_8, .int x_3, .int x_4, .int x_5, .int x_6, .long g_7, .int x_8, .int x_9, .int x_10, .ref q_9, .int x_11, .ref q_10, .ref q_11, .int x_12, .ref q_12, .ref q_13, .int x_13, .int x_14, .ref q_14, .ref q_15, .ref q_16, .ref q_17, .int x_15, .long g_16, .long g_17, .int x_18, .int x_19, .int x_20, .int x_21, .ref q_18, .ref q_19, .int x_22, .int x_23, .int x_24, .int x_25, .ref q_20, .ref q_21, .int x_26, .int x_27, .ref q_22, .ref q_23, .ref q_24, .ref q_25, .int x_28, .int x_29, .int x_30]))]) := by
  refine zMi_of (own := RX12) (by decide +kernel) rfl (Nat.le_of_ble_eq_true rfl) ?_
  intro p e s m args below meth c A ls C0 hr hlk hin hP hD hS hA hK hN hl
  have hx := C0.1
  have hb := C0.2.1
  have hml := C0.2.2.1
  have hown := C0.2.2.2.1
  have hts := C0.2.2.2.2
  have hl : lv_has ls 2 [(0, .ref q_0), (1, .int 1)] := hl
  have hP : va_P D vwCl [(q_0, .inr (12, [.int x_0, .int x_1, .ref q_1, .ref q_2, .ref q_3, .int x_2, .ref q_4, .ref q_5, .ref q_6, .ref q_7, .ref q_8, .int x_3, .int x_4, .int x_5, .int x_6, .long g_7, .int x_8, .int x_9, .int x_10, .ref q_9, .int x_11, .ref q_10, .ref q_11, .int x_12, .ref q_12, .ref q_13, .int x_13, .int x_14, .ref q_14, .ref q_15, .ref q_16, .ref q_17, .int x_15, .long g_16, .long g_17, .int x_18, .int x_19, .int x_20, .int x_21, .ref q_18, .ref q_19, .int x_22, .int x_23, .int x_24, .int x_25, .ref q_20, .ref q_21, .int x_26, .int x_27, .ref q_22, .ref q_23, .ref q_24, .ref q_25, .int x_28, .int x_29, .int x_30]))] s.heap := hP
  refine lv_aload_n hx hb dX12_told_0 rfl (lv_at hl 0 rfl) ?_
  refine lv_iload_n hx hb dX12_told_1 rfl (lv_at hl 1 rfl) ?_
  refine lv_if_ge (tgt := 9) hx hb dX12_told_2 (by decide) (fun _ => ?_) (fun c1 => absurd (by decide) c1)
  refine lv_iconst (v := 0) hx hb dX12_told_9 (by decide) ?_
  refine va_put (D := D) (ci := 12) (v := .int 0) (ty := .int) (C := RX12) (T := TX12) (N := 56) hx hb hts inX12 tyX12 tyX12_ok nmX12 hown hK hP hD hS 0 rfl rfl 1 (by decide) (hts _ kF_X12_95) (fun _ h9 => h9) rfl (by decide +kernel) rfl rfl (Nat.le_of_ble_eq_true rfl) dX12_told_10 (fun H locs hP hD hS => ?_)
  have hP : va_P D vwCl [(q_0, .inr (12, [.int x_0, .int 0, .ref q_1, .ref q_2, .ref q_3, .int x_2, .ref q_4, .ref q_5, .ref q_6, .ref q_7, .ref q_8, .int x_3, .int x_4, .int x_5, .int x_6, .long g_7, .int x_8, .int x_9, .int x_10, .ref q_9, .int x_11, .ref q_10, .ref q_11, .int x_12, .ref q_12, .ref q_13, .int x_13, .int x_14, .ref q_14, .ref q_15, .ref q_16, .ref q_17, .int x_15, .long g_16, .long g_17, .int x_18, .int x_19, .int x_20, .int x_21, .ref q_18, .ref q_19, .int x_22, .int x_23, .int x_24, .int x_25, .ref q_20, .ref q_21, .int x_26, .int x_27, .ref q_22, .ref q_23, .ref q_24, .ref q_25, .int x_28, .int x_29, .int x_30]))] H := hP
  have hD : va_D A [(q_0, .inr (12, [.int x_0, .int 0, .ref q_1, .ref q_2, .ref q_3, .int x_2, .ref q_4, .ref q_5, .ref q_6, .ref q_7, .ref q_8, .int x_3, .int x_4, .int x_5, .int x_6, .long g_7, .int x_8, .int x_9, .int x_10, .ref q_9, .int x_11, .ref q_10, .ref q_11, .int x_12, .ref q_12, .ref q_13, .int x_13, .int x_14, .ref q_14, .ref q_15, .ref q_16, .ref q_17, .int x_15, .long g_16, .long g_17, .int x_18, .int x_19, .int x_20, .int x_21, .ref q_18, .ref q_19, .int x_22, .int x_23, .int x_24, .int x_25, .ref q_20, .ref q_21, .int x_26, .int x_27, .ref q_22, .ref q_23, .ref q_24, .ref q_25, .int x_28, .int x_29, .int x_30]))] := hD
  refine lv_iload_n hx hb dX12_told_13 rfl (lv_at hl 1 rfl) ?_
  exact z_iret C0 hr hlk rfl hK hP hD hS (0, fun _ => 0) ⟨rfl, rfl⟩ [0] rfl rfl rfl dX12_told_14

set_option maxHeartbeats 4000000 in
set_option maxRecDepth 100000 in
theorem c_X12_failed_1 (l : Launch) (D : va_G) (k : Nat → ClassId) (q_0 : Nat) (q_1 : Nat) (q_2 : Nat) (q_3 : Nat) (q_4 : Nat) (q_5 : Nat) (q_6 : Nat) (q_7 : Nat) (q_8 : Nat) (q_9 : Nat) (q_10 : Nat) (q_11 : Nat) (q_12 : Nat) (q_13 : Nat) (q_14 : Nat) (q_15 : Nat) (q_16 : Nat) (q_17 : Nat) (q_18 : Nat) (q_19 : Nat) (q_20 : Nat) (q_21 : Nat) (q_22 : Nat) (q_23 : Nat) (q_24 : Nat) (q_25 : Nat) (x_0 : Int32) (x_1 : Int32) (x_2 : Int32) (x_3 : Int32) (x_4 : Int32) (x_5 : Int32) (x_6 : Int32) (x_7 : Int32) (x_8 : Int32) (g_9 : Int64) (x_10 : Int32) (x_11 : Int32) (x_12 : Int32) (x_13 : Int32) (x_14 : Int32) (x_15 : Int32) (x_16 : Int32) (x_17 : Int32) (g_18 : Int64) (g_19 : Int64) (x_20 : Int32) (x_21 : Int32) (x_22 : Int32) (x_23 : Int32) (x_24 : Int32) (x_25 : Int32) (x_26 : Int32) (x_27 : Int32) (x_28 : Int32) (x_29 : Int32) (x_30 : Int32) (x_31 : Int32) (x_32 : Int32) : zMi l yX12_failed cX12_failed 3 (some .int) ({ frames := 2, cells := 0, slots := 0, locals := 45 }) D k [.ref q_0, .int x_0, .int x_1] [(q_0, .inr (12, [.int x_2, .int x_3, .ref q_1, .ref q_2, .ref q_3, .int x_4, .ref q_4, .ref q_5, .ref q_6, .ref q_7, .ref q_8, .int x_5, .int x_6, .int x_7, .int x_8, .long g_9, .int x_10, .int x_11, .int x_12, .ref q_9, .int x_13, .ref q_10, .ref q_11, .int x_14, .ref q_12, .ref q_13, .int x_15, .int x_16, .ref q_14, .ref q_15, .ref q_16, .ref q_17, .int x_17, .long g_18, .long g_19, .int x_20, .int x_21, .int x_22, .int x_23, .ref q_18, .ref q_19, .int x_24, .int x_25, .int x_26, .int x_27, .ref q_20, .ref q_21, .int x_28, .int x_29, .ref q_22, .ref q_23, .ref q_24, .ref q_25, .int x_30, .int x_31, .int x_32])), (q_1, .inl (k 0, 27101, .inl (fun _ => 0)))] (fun r u => (u.1 = 0 ∧ r = (-1) ∧ (((((Int32.toInt64 x_0) < 0) ∨ (¬ (Int32.toInt64 x_0) < 0 ∧ (7 : Int64) < (Int32.toInt64 x_0)))) ∨ (((¬ (Int32.toInt64 x_0) < 0 ∧ ¬ (7 : Int64) < (Int32.toInt64 x_0))) ∧ (((Int32.toInt64 x_1) < 0) ∨ (¬ (Int32.toInt64 x_1) < 0 ∧ (799 : Int64) < (Int32.toInt64 x_1)))))) ∨ (u.1 = 1 ∧ r = 1 ∧ ((((¬ (Int32.toInt64 x_0) < 0 ∧ ¬ (7 : Int64) < (Int32.toInt64 x_0))) ∧ ((¬ (Int32.toInt64 x_1) < 0 ∧ ¬ (799 : Int64) < (Int32.toInt64 x_1))))))) (fun u => []) := by
  refine zMi_of (own := RX12) (by decide +kernel) rfl (Nat.le_of_ble_eq_true rfl) ?_
  intro p e s m args below meth c A ls C0 hr hlk hin hP hD hS hA hK hN hl
  have hx := C0.1
  have hb := C0.2.1
  have hml := C0.2.2.1
  have hown := C0.2.2.2.1
  have hts := C0.2.2.2.2
  have hl : lv_has ls 3 [(0, .ref q_0), (1, .int x_0), (2, .int x_1)] := hl
  have hP : va_P D vwCl [(q_0, .inr (12, [.int x_2, .int x_3, .ref q_1, .ref q_2, .ref q_3, .int x_4, .ref q_4, .ref q_5, .ref q_6, .ref q_7, .ref q_8, .int x_5, .int x_6, .int x_7, .int x_8, .long g_9, .int x_10, .int x_11, .int x_12, .ref q_9, .int x_13, .ref q_10, .ref q_11, .int x_14, .ref q_12, .ref q_13, .int x_15, .int x_16, .ref q_14, .ref q_15, .ref q_16, .ref q_17, .int x_17, .long g_18, .long g_19, .int x_20, .int x_21, .int x_22, .int x_23, .ref q_18, .ref q_19, .int x_24, .int x_25, .int x_26, .int x_27, .ref q_20, .ref q_21, .int x_28, .int x_29, .ref q_22, .ref q_23, .ref q_24, .ref q_25, .int x_30, .int x_31, .int x_32])), (q_1, .inl (k 0, 27101, .inl (fun _ => 0)))] s.heap := hP
  refine lv_aload_n hx hb dX12_failed_0 rfl (lv_at hl 0 rfl) ?_
  refine lv_iconst (v := 0) hx hb dX12_failed_1 (by decide) ?_
  refine va_put (D := D) (ci := 12) (v := .int 0) (ty := .int) (C := RX12) (T := TX12) (N := 56) hx hb hts inX12 tyX12 tyX12_ok nmX12 hown hK hP hD hS 0 rfl rfl 0 (by decide) (hts _ kF_X12_92) (fun _ h9 => h9) rfl (by decide +kernel) rfl rfl (Nat.le_of_ble_eq_true rfl) dX12_failed_2 (fun H locs hP hD hS => ?_)
  have hP : va_P D vwCl [(q_0, .inr (12, [.int 0, .int x_3, .ref q_1, .ref q_2, .ref q_3, .int x_4, .ref q_4, .ref q_5, .ref q_6, .ref q_7, .ref q_8, .int x_5, .int x_6, .int x_7, .int x_8, .long g_9, .int x_10, .int x_11, .int x_12, .ref q_9, .int x_13, .ref q_10, .ref q_11, .int x_14, .ref q_12, .ref q_13, .int x_15, .int x_16, .ref q_14, .ref q_15, .ref q_16, .ref q_17, .int x_17, .long g_18, .long g_19, .int x_20, .int x_21, .int x_22, .int x_23, .ref q_18, .ref q_19, .int x_24, .int x_25, .int x_26, .int x_27, .ref q_20, .ref q_21, .int x_28, .int x_29, .ref q_22, .ref q_23, .ref q_24, .ref q_25, .int x_30, .int x_31, .int x_32])), (q_1, .inl (k 0, 27101, .inl (fun _ => 0)))] H := hP
  have hD : va_D A [(q_0, .inr (12, [.int 0, .int x_3, .ref q_1, .ref q_2, .ref q_3, .int x_4, .ref q_4, .ref q_5, .ref q_6, .ref q_7, .ref q_8, .int x_5, .int x_6, .int x_7, .int x_8, .long g_9, .int x_10, .int x_11, .int x_12, .ref q_9, .int x_13, .ref q_10, .ref q_11, .int x_14, .ref q_12, .ref q_13, .int x_15, .int x_16, .ref q_14, .ref q_15, .ref q_16, .ref q_17, .int x_17, .long g_18, .long g_19, .int x_20, .int x_21, .int x_22, .int x_23, .ref q_18, .ref q_19, .int x_24, .int x_25, .int x_26, .int x_27, .ref q_20, .ref q_21, .int x_28, .int x_29, .ref q_22, .ref q_23, .ref q_24, .ref q_25, .int x_30, .int x_31, .int x_32])), (q_1, .inl (k 0, 27101, .inl (fun _ => 0)))] := hD
  refine lv_iload_n hx hb dX12_failed_5 rfl (lv_at hl 1 rfl) ?_
  refine lv_i2l (v := (Int32.toInt64 x_0)) hx hb dX12_failed_6 rfl ?_
  refine lv_lconst (v := 0) hx hb dX12_failed_7 (by decide) ?_
  refine lv_ldc2 hx hb hown (hts _ kL_X12_116) dX12_failed_8 ?_
  refine z_bi0 (z_runS (As := [.long (Int32.toInt64 x_0), .long 0, .long 7]) (rest := []) C0 (c_X12_in_1 l D k (Int32.toInt64 x_0) 0 7 _) okS_X12_in kM_X12_100 rfl (z_p0 hK hN) rfl hl.1 rfl (Nat.le_of_ble_eq_true rfl) dX12_failed_11 rfl) hP hS hA (fun r1 u1 H locs hw1 hP hS => ?_)
  obtain ⟨i1, a1⟩ := u1
  dsimp only at hw1
  rcases hw1 with ⟨rfl, rfl, c1⟩ | ⟨rfl, rfl, c1⟩
  · refine lv_if_eq (tgt := 24) hx hb dX12_failed_14 (by decide) (fun _ => ?_) (fun c2 => absurd (by decide) c2)
    refine lv_aload_n hx hb dX12_failed_24 rfl (lv_at hl 0 rfl) ?_
    refine lv_iconst (v := (-1)) hx hb dX12_failed_25 (by decide) ?_
    refine z_bi (wr := [(q_1, .inl (k 0, 27101, .inl (fun _ => 0)))]) (z_runV (C := RX12) (As := [.int (-1)]) (rest := []) C0 (c_X12_told_1 l D k q_0 q_1 q_2 q_3 q_4 q_5 q_6 q_7 q_8 q_9 q_10 q_11 q_12 q_13 q_14 q_15 q_16 q_17 q_18 q_19 q_20 q_21 q_22 q_23 q_24 q_25 0 x_3 x_4 x_5 x_6 x_7 x_8 g_9 x_10 x_11 x_12 x_13 x_14 x_15 x_16 x_17 g_18 g_19 x_20 x_21 x_22 x_23 x_24 x_25 x_26 x_27 x_28 x_29 x_30 x_31 x_32 _) okV_X12_told kM_X12_106 rfl (z_pV (q0 := 0) hK hN hP hD [0] rfl rfl rfl rfl rfl) rfl hl.1 rfl (Nat.le_of_ble_eq_true rfl) dX12_failed_26 rfl) hP hD hS hA [0] [1] rfl rfl rfl rfl (fun r3 u3 H locs hw3 hP hD hS => ?_)
    obtain ⟨i3, a3⟩ := u3
    dsimp only at hw3
    obtain ⟨rfl, rfl⟩ := hw3
    have hP : va_P D vwCl [(q_1, .inl (k 0, 27101, .inl (fun _ => 0))), (q_0, .inr (12, [.int 0, .int (-1), .ref q_1, .ref q_2, .ref q_3, .int x_4, .ref q_4, .ref q_5, .ref q_6, .ref q_7, .ref q_8, .int x_5, .int x_6, .int x_7, .int x_8, .long g_9, .int x_10, .int x_11, .int x_12, .ref q_9, .int x_13, .ref q_10, .ref q_11, .int x_14, .ref q_12, .ref q_13, .int x_15, .int x_16, .ref q_14, .ref q_15, .ref q_16, .ref q_17, .int x_17, .long g_18, .long g_19, .int x_20, .int x_21, .int x_22, .int x_23, .ref q_18, .ref q_19, .int x_24, .int x_25, .int x_26, .int x_27, .ref q_20, .ref q_21, .int x_28, .int x_29, .ref q_22, .ref q_23, .ref q_24, .ref q_25, .int x_30, .int x_31, .int x_32]))] H := hP
    have hD : va_D A [(q_1, .inl (k 0, 27101, .inl (fun _ => 0))), (q_0, .inr (12, [.int 0, .int (-1), .ref q_1, .ref q_2, .ref q_3, .int x_4, .ref q_4, .ref q_5, .ref q_6, .ref q_7, .ref q_8, .int x_5, .int x_6, .int x_7, .int x_8, .long g_9, .int x_10, .int x_11, .int x_12, .ref q_9, .int x_13, .ref q_10, .ref q_11, .int x_14, .ref q_12, .ref q_13, .int x_15, .int x_16, .ref q_14, .ref q_15, .ref q_16, .ref q_17, .int x_17, .long g_18, .long g_19, .int x_20, .int x_21, .int x_22, .int x_23, .ref q_18, .ref q_19, .int x_24, .int x_25, .int x_26, .int x_27, .ref q_20, .ref q_21, .int x_28, .int x_29, .ref q_22, .ref q_23, .ref q_24, .ref q_25, .int x_30, .int x_31, .int x_32]))] := hD
    exact z_iret C0 hr hlk rfl hK hP hD hS (0, fun _ => 0) (Or.inl ⟨rfl, rfl, (Or.inl c1)⟩) [] rfl rfl rfl dX12_failed_29
  · refine lv_if_eq (tgt := 24) hx hb dX12_failed_14 (by decide) (fun c4 => absurd c4 (by decide)) (fun _ => ?_)
    refine lv_iload_n hx hb dX12_failed_17 rfl (lv_at hl 2 rfl) ?_
    refine z_bi0 (z_runS (As := [.int x_1]) (rest := []) C0 (c_X12_isHalf_1 l D k x_1 _) okS_X12_isHalf kM_X12_145 rfl (z_p0 hK hN) rfl hl.1 rfl (Nat.le_of_ble_eq_true rfl) dX12_failed_18 rfl) hP hS hA (fun r5 u5 H locs hw5 hP hS => ?_)
    obtain ⟨i5, a5⟩ := u5
    dsimp only at hw5
    rcases hw5 with ⟨rfl, rfl, c5⟩ | ⟨rfl, rfl, c5⟩
    · refine lv_if_ne (tgt := 30) hx hb dX12_failed_21 (by decide) (fun c6 => absurd (by decide) c6) (fun _ => ?_)
      refine lv_aload_n hx hb dX12_failed_24 rfl (lv_at hl 0 rfl) ?_
      refine lv_iconst (v := (-1)) hx hb dX12_failed_25 (by decide) ?_
      refine z_bi (wr := [(q_1, .inl (k 0, 27101, .inl (fun _ => 0)))]) (z_runV (C := RX12) (As := [.int (-1)]) (rest := []) C0 (c_X12_told_1 l D k q_0 q_1 q_2 q_3 q_4 q_5 q_6 q_7 q_8 q_9 q_10 q_11 q_12 q_13 q_14 q_15 q_16 q_17 q_18 q_19 q_20 q_21 q_22 q_23 q_24 q_25 0 x_3 x_4 x_5 x_6 x_7 x_8 g_9 x_10 x_11 x_12 x_13 x_14 x_15 x_16 x_17 g_18 g_19 x_20 x_21 x_22 x_23 x_24 x_25 x_26 x_27 x_28 x_29 x_30 x_31 x_32 _) okV_X12_told kM_X12_106 rfl (z_pV (q0 := 0) hK hN hP hD [0] rfl rfl rfl rfl rfl) rfl hl.1 rfl (Nat.le_of_ble_eq_true rfl) dX12_failed_26 rfl) hP hD hS hA [0] [1] rfl rfl rfl rfl (fun r7 u7 H locs hw7 hP hD hS => ?_)
      obtain ⟨i7, a7⟩ := u7
      dsimp only at hw7
      obtain ⟨rfl, rfl⟩ := hw7
      have hP : va_P D vwCl [(q_1, .inl (k 0, 27101, .inl (fun _ => 0))), (q_0, .inr (12, [.int 0, .int (-1), .ref q_1, .ref q_2, .ref q_3, .int x_4, .ref q_4, .ref q_5, .ref q_6, .ref q_7, .ref q_8, .int x_5, .int x_6, .int x_7, .int x_8, .long g_9, .int x_10, .int x_11, .int x_12, .ref q_9, .int x_13, .ref q_10, .ref q_11, .int x_14, .ref q_12, .ref q_13, .int x_15, .int x_16, .ref q_14, .ref q_15, .ref q_16, .ref q_17, .int x_17, .long g_18, .long g_19, .int x_20, .int x_21, .int x_22, .int x_23, .ref q_18, .ref q_19, .int x_24, .int x_25, .int x_26, .int x_27, .ref q_20, .ref q_21, .int x_28, .int x_29, .ref q_22, .ref q_23, .ref q_24, .ref q_25, .int x_30, .int x_31, .int x_32]))] H := hP
      have hD : va_D A [(q_1, .inl (k 0, 27101, .inl (fun _ => 0))), (q_0, .inr (12, [.int 0, .int (-1), .ref q_1, .ref q_2, .ref q_3, .int x_4, .ref q_4, .ref q_5, .ref q_6, .ref q_7, .ref q_8, .int x_5, .int x_6, .int x_7, .int x_8, .long g_9, .int x_10, .int x_11, .int x_12, .ref q_9, .int x_13, .ref q_10, .ref q_11, .int x_14, .ref q_12, .ref q_13, .int x_15, .int x_16, .ref q_14, .ref q_15, .ref q_16, .ref q_17, .int x_17, .long g_18, .long g_19, .int x_20, .int x_21, .int x_22, .int x_23, .ref q_18, .ref q_19, .int x_24, .int x_25, .int x_26, .int x_27, .ref q_20, .ref q_21, .int x_28, .int x_29, .ref q_22, .ref q_23, .ref q_24, .ref q_25, .int x_30, .int x_31, .int x_32]))] := hD
      exact z_iret C0 hr hlk rfl hK hP hD hS (0, fun _ => 0) (Or.inl ⟨rfl, rfl, (Or.inr (⟨c1, c5⟩))⟩) [] rfl rfl rfl dX12_failed_29
    · refine lv_if_ne (tgt := 30) hx hb dX12_failed_21 (by decide) (fun _ => ?_) (fun c8 => absurd c8 (by decide))
      refine lv_aload_n hx hb dX12_failed_30 rfl (lv_at hl 0 rfl) ?_
      refine lv_iload_n hx hb dX12_failed_31 rfl (lv_at hl 1 rfl) ?_
      refine lv_iload_n hx hb dX12_failed_32 rfl (lv_at hl 2 rfl) ?_
      refine z_bi (wr := []) (z_runV (C := RX12) (As := [.int x_0, .int x_1]) (rest := []) C0 (c_X12_hasFailed_1 l D k q_0 q_1 q_2 q_3 q_4 q_5 q_6 q_7 q_8 q_9 q_10 q_11 q_12 q_13 q_14 q_15 q_16 q_17 q_18 q_19 q_20 q_21 q_22 q_23 q_24 q_25 x_0 x_1 0 x_3 x_4 x_5 x_6 x_7 x_8 g_9 x_10 x_11 x_12 x_13 x_14 x_15 x_16 x_17 g_18 g_19 x_20 x_21 x_22 x_23 x_24 x_25 x_26 x_27 x_28 x_29 x_30 x_31 x_32 _) okV_X12_hasFailed kM_X12_148 rfl (z_pV (q0 := 0) hK hN hP hD [0, 1] rfl rfl rfl rfl rfl) rfl hl.1 rfl (Nat.le_of_ble_eq_true rfl) dX12_failed_33 rfl) hP hD hS hA [0, 1] [] rfl rfl rfl rfl (fun r9 u9 H locs hw9 hP hD hS => ?_)
      obtain ⟨i9, a9⟩ := u9
      dsimp only at hw9
      obtain ⟨rfl, rfl⟩ := hw9
      have hP : va_P D vwCl [(q_0, .inr (12, [.int 0, .int x_3, .ref q_1, .ref q_2, .ref q_3, .int x_4, .ref q_4, .ref q_5, .ref q_6, .ref q_7, .ref q_8, .int x_5, .int x_6, .int x_7, .int x_8, .long g_9, .int x_10, .int x_11, .int x_12, .ref q_9, .int x_13, .ref q_10, .ref q_11, .int x_14, .ref q_12, .ref q_13, .int x_15, .int x_16, .ref q_14, .ref q_15, .ref q_16, .ref q_17, .int x_17, .long g_18, .long g_19, .int x_20, .int x_21, .int x_22, .int x_23, .ref q_18, .ref q_19, .int x_24, .int x_25, .int x_26, .int x_27, .ref q_20, .ref q_21, .int x_28, .int x_29, .ref q_22, .ref q_23, .ref q_24, .ref q_25, .int x_30, .int x_31, .int x_32])), (q_1, .inl (k 0, 27101, .inl (fun _ => 0)))] H := hP
      have hD : va_D A [(q_0, .inr (12, [.int 0, .int x_3, .ref q_1, .ref q_2, .ref q_3, .int x_4, .ref q_4, .ref q_5, .ref q_6, .ref q_7, .ref q_8, .int x_5, .int x_6, .int x_7, .int x_8, .long g_9, .int x_10, .int x_11, .int x_12, .ref q_9, .int x_13, .ref q_10, .ref q_11, .int x_14, .ref q_12, .ref q_13, .int x_15, .int x_16, .ref q_14, .ref q_15, .ref q_16, .ref q_17, .int x_17, .long g_18, .long g_19, .int x_20, .int x_21, .int x_22, .int x_23, .ref q_18, .ref q_19, .int x_24, .int x_25, .int x_26, .int x_27, .ref q_20, .ref q_21, .int x_28, .int x_29, .ref q_22, .ref q_23, .ref q_24, .ref q_25, .int x_30, .int x_31, .int x_32])), (q_1, .inl (k 0, 27101, .inl (fun _ => 0)))] := hD
      refine lv_if_eq (tgt := 46) hx hb dX12_failed_36 (by decide) (fun _ => ?_) (fun c10 => absurd (by decide) c10)
      refine lv_aload_n hx hb dX12_failed_46 rfl (lv_at hl 0 rfl) ?_
      refine va_get (D := D) (ci := 12) (v := .ref q_1) (C := RX12) (T := TX12) (N := 56) hx hb hts inX12 hown hK hP 0 rfl rfl 2 (by decide) (hts _ kF_X12_7) (fun _ h9 => h9) rfl dX12_failed_47 ?_
      refine lv_bipush (v := 9) hx hb dX12_failed_50 (by decide) ?_
      refine va_iald hx hb hK hP 1 0 rfl rfl (by unfold vp_in; decide) dX12_failed_52 ?_
      refine lv_toc (v := 0) rfl ?_
      refine lv_bipush (v := 60) hx hb dX12_failed_53 (by decide) ?_
      refine lv_icmp_ne (tgt := 65) hx hb dX12_failed_55 (by decide) (fun _ => ?_) (fun c11 => absurd c11 (by decide))
      refine lv_aload_n hx hb dX12_failed_65 rfl (lv_at hl 0 rfl) ?_
      refine va_get (D := D) (ci := 12) (v := .ref q_1) (C := RX12) (T := TX12) (N := 56) hx hb hts inX12 hown hK hP 0 rfl rfl 2 (by decide) (hts _ kF_X12_7) (fun _ h9 => h9) rfl dX12_failed_66 ?_
      refine lv_sipush (v := 3300) hx hb dX12_failed_69 (by decide) ?_
      refine lv_iconst (v := 2) hx hb dX12_failed_72 (by decide) ?_
      refine lv_aload_n hx hb dX12_failed_73 rfl (lv_at hl 0 rfl) ?_
      refine va_get (D := D) (ci := 12) (v := .ref q_1) (C := RX12) (T := TX12) (N := 56) hx hb hts inX12 hown hK hP 0 rfl rfl 2 (by decide) (hts _ kF_X12_7) (fun _ h9 => h9) rfl dX12_failed_74 ?_
      refine lv_bipush (v := 9) hx hb dX12_failed_77 (by decide) ?_
      refine va_iald hx hb hK hP 1 0 rfl rfl (by unfold vp_in; decide) dX12_failed_79 ?_
      refine lv_toc (v := 0) rfl ?_
      refine lv_imul hx hb dX12_failed_80 ?_
      refine lv_toc (v := 0) (by decide) ?_
      refine lv_iadd hx hb dX12_failed_81 ?_
      refine lv_toc (v := 3300) (by decide) ?_
      refine lv_iload_n hx hb dX12_failed_82 rfl (lv_at hl 1 rfl) ?_
      refine va_iast hx hb hK hP hD hS 1 0 rfl rfl (by unfold vp_in; decide) dX12_failed_83 (fun H locs hP hD hS => ?_)
      have hP : va_P D vwCl [(q_0, .inr (12, [.int 0, .int x_3, .ref q_1, .ref q_2, .ref q_3, .int x_4, .ref q_4, .ref q_5, .ref q_6, .ref q_7, .ref q_8, .int x_5, .int x_6, .int x_7, .int x_8, .long g_9, .int x_10, .int x_11, .int x_12, .ref q_9, .int x_13, .ref q_10, .ref q_11, .int x_14, .ref q_12, .ref q_13, .int x_15, .int x_16, .ref q_14, .ref q_15, .ref q_16, .ref q_17, .int x_17, .long g_18, .long g_19, .int x_20, .int x_21, .int x_22, .int x_23, .ref q_18, .ref q_19, .int x_24, .int x_25, .int x_26, .int x_27, .ref q_20, .ref q_21, .int x_28, .int x_29, .ref q_22, .ref q_23, .ref q_24, .ref q_25, .int x_30, .int x_31, .int x_32])), (q_1, .inl (k 0, 27101, .inl (upd (fun _ => 0) 3300 x_0)))] H := hP
      have hD : va_D A [(q_0, .inr (12, [.int 0, .int x_3, .ref q_1, .ref q_2, .ref q_3, .int x_4, .ref q_4, .ref q_5, .ref q_6, .ref q_7, .ref q_8, .int x_5, .int x_6, .int x_7, .int x_8, .long g_9, .int x_10, .int x_11, .int x_12, .ref q_9, .int x_13, .ref q_10, .ref q_11, .int x_14, .ref q_12, .ref q_13, .int x_15, .int x_16, .ref q_14, .ref q_15, .ref q_16, .ref q_17, .int x_17, .long g_18, .long g_19, .int x_20, .int x_21, .int x_22, .int x_23, .ref q_18, .ref q_19, .int x_24, .int x_25, .int x_26, .int x_27, .ref q_20, .ref q_21, .int x_28, .int x_29, .ref q_22, .ref q_23, .ref q_24, .ref q_25, .int x_30, .int x_31, .int x_32])), (q_1, .inl (k 0, 27101, .inl (upd (fun _ => 0) 3300 x_0)))] := hD
      refine lv_aload_n hx hb dX12_failed_84 rfl (lv_at hl 0 rfl) ?_
      refine va_get (D := D) (ci := 12) (v := .ref q_1) (C := RX12) (T := TX12) (N := 56) hx hb hts inX12 hown hK hP 0 rfl rfl 2 (by decide) (hts _ kF_X12_7) (fun _ h9 => h9) rfl dX12_failed_85 ?_
      refine lv_sipush (v := 3300) hx hb dX12_failed_88 (by decide) ?_
      refine lv_iconst (v := 2) hx hb dX12_failed_91 (by decide) ?_
      refine lv_aload_n hx hb dX12_failed_92 rfl (lv_at hl 0 rfl) ?_
      refine va_get (D := D) (ci := 12) (v := .ref q_1) (C := RX12) (T := TX12) (N := 56) hx hb hts inX12 hown hK hP 0 rfl rfl 2 (by decide) (hts _ kF_X12_7) (fun _ h9 => h9) rfl dX12_failed_93 ?_
      refine lv_bipush (v := 9) hx hb dX12_failed_96 (by decide) ?_
      refine va_iald hx hb hK hP 1 0 rfl rfl (by unfold vp_in; decide) dX12_failed_98 ?_
      refine lv_toc (v := 0) rfl ?_
      refine lv_imul hx hb dX12_failed_99 ?_
      refine lv_toc (v := 0) (by decide) ?_
      refine lv_iadd hx hb dX12_failed_100 ?_
      refine lv_toc (v := 3300) (by decide) ?_
      refine lv_iconst (v := 1) hx hb dX12_failed_101 (by decide) ?_
      refine lv_iadd hx hb dX12_failed_102 ?_
      refine lv_toc (v := 3301) (by decide) ?_
      refine lv_iload_n hx hb dX12_failed_103 rfl (lv_at hl 2 rfl) ?_
      refine va_iast hx hb hK hP hD hS 1 0 rfl rfl (by unfold vp_in; decide) dX12_failed_104 (fun H locs hP hD hS => ?_)
      have hP : va_P D vwCl [(q_0, .inr (12, [.int 0, .int x_3, .ref q_1, .ref q_2, .ref q_3, .int x_4, .ref q_4, .ref q_5, .ref q_6, .ref q_7, .ref q_8, .int x_5, .int x_6, .int x_7, .int x_8, .long g_9, .int x_10, .int x_11, .int x_12, .ref q_9, .int x_13, .ref q_10, .ref q_11, .int x_14, .ref q_12, .ref q_13, .int x_15, .int x_16, .ref q_14, .ref q_15, .ref q_16, .ref q_17, .int x_17, .long g_18, .long g_19, .int x_20, .int x_21, .int x_22, .int x_23, .ref q_18, .ref q_19, .int x_24, .int x_25, .int x_26, .int x_27, .ref q_20, .ref q_21, .int x_28, .int x_29, .ref q_22, .ref q_23, .ref q_24, .ref q_25, .int x_30, .int x_31, .int x_32])), (q_1, .inl (k 0, 27101, .inl (upd (upd (fun _ => 0) 3300 x_0) 3301 x_1)))] H := hP
      have hD : va_D A [(q_0, .inr (12, [.int 0, .int x_3, .ref q_1, .ref q_2, .ref q_3, .int x_4, .ref q_4, .ref q_5, .ref q_6, .ref q_7, .ref q_8, .int x_5, .int x_6, .int x_7, .int x_8, .long g_9, .int x_10, .int x_11, .int x_12, .ref q_9, .int x_13, .ref q_10, .ref q_11, .int x_14, .ref q_12, .ref q_13, .int x_15, .int x_16, .ref q_14, .ref q_15, .ref q_16, .ref q_17, .int x_17, .long g_18, .long g_19, .int x_20, .int x_21, .int x_22, .int x_23, .ref q_18, .ref q_19, .int x_24, .int x_25, .int x_26, .int x_27, .ref q_20, .ref q_21, .int x_28, .int x_29, .ref q_22, .ref q_23, .ref q_24, .ref q_25, .int x_30, .int x_31, .int x_32])), (q_1, .inl (k 0, 27101, .inl (upd (upd (fun _ => 0) 3300 x_0) 3301 x_1)))] := hD
      refine lv_aload_n hx hb dX12_failed_105 rfl (lv_at hl 0 rfl) ?_
      refine va_get (D := D) (ci := 12) (v := .ref q_1) (C := RX12) (T := TX12) (N := 56) hx hb hts inX12 hown hK hP 0 rfl rfl 2 (by decide) (hts _ kF_X12_7) (fun _ h9 => h9) rfl dX12_failed_106 ?_
      refine lv_bipush (v := 9) hx hb dX12_failed_109 (by decide) ?_
      refine lv_dup2_11 hx hb dX12_failed_111 rfl rfl ?_
      refine va_iald hx hb hK hP 1 0 rfl rfl (by unfold vp_in; decide) dX12_failed_112 ?_
      refine lv_toc (v := 0) rfl ?_
      refine lv_iconst (v := 1) hx hb dX12_failed_113 (by decide) ?_
      refine lv_iadd hx hb dX12_failed_114 ?_
      refine lv_toc (v := 1) (by decide) ?_
      refine va_iast hx hb hK hP hD hS 1 0 rfl rfl (by unfold vp_in; decide) dX12_failed_115 (fun H locs hP hD hS => ?_)
      have hP : va_P D vwCl [(q_0, .inr (12, [.int 0, .int x_3, .ref q_1, .ref q_2, .ref q_3, .int x_4, .ref q_4, .ref q_5, .ref q_6, .ref q_7, .ref q_8, .int x_5, .int x_6, .int x_7, .int x_8, .long g_9, .int x_10, .int x_11, .int x_12, .ref q_9, .int x_13, .ref q_10, .ref q_11, .int x_14, .ref q_12, .ref q_13, .int x_15, .int x_16, .ref q_14, .ref q_15, .ref q_16, .ref q_17, .int x_17, .long g_18, .long g_19, .int x_20, .int x_21, .int x_22, .int x_23, .ref q_18, .ref q_19, .int x_24, .int x_25, .int x_26, .int x_27, .ref q_20, .ref q_21, .int x_28, .int x_29, .ref q_22, .ref q_23, .ref q_24, .ref q_25, .int x_30, .int x_31, .int x_32])), (q_1, .inl (k 0, 27101, .inl (upd (upd (upd (fun _ => 0) 3300 x_0) 3301 x_1) 9 1)))] H := hP
      have hD : va_D A [(q_0, .inr (12, [.int 0, .int x_3, .ref q_1, .ref q_2, .ref q_3, .int x_4, .ref q_4, .ref q_5, .ref q_6, .ref q_7, .ref q_8, .int x_5, .int x_6, .int x_7, .int x_8, .long g_9, .int x_10, .int x_11, .int x_12, .ref q_9, .int x_13, .ref q_10, .ref q_11, .int x_14, .ref q_12, .ref q_13, .int x_15, .int x_16, .ref q_14, .ref q_15, .ref q_16, .ref q_17, .int x_17, .long g_18, .long g_19, .int x_20, .int x_21, .int x_22, .int x_23, .ref q_18, .ref q_19, .int x_24, .int x_25, .int x_26, .int x_27, .ref q_20, .ref q_21, .int x_28, .int x_29, .ref q_22, .ref q_23, .ref q_24, .ref q_25, .int x_30, .int x_31, .int x_32])), (q_1, .inl (k 0, 27101, .inl (upd (upd (upd (fun _ => 0) 3300 x_0) 3301 x_1) 9 1)))] := hD
      refine lv_aload_n hx hb dX12_failed_116 rfl (lv_at hl 0 rfl) ?_
      refine lv_aload_n hx hb dX12_failed_117 rfl (lv_at hl 0 rfl) ?_
      refine va_get (D := D) (ci := 12) (v := .ref q_1) (C := RX12) (T := TX12) (N := 56) hx hb hts inX12 hown hK hP 0 rfl rfl 2 (by decide) (hts _ kF_X12_7) (fun _ h9 => h9) rfl dX12_failed_118 ?_
      refine lv_bipush (v := 9) hx hb dX12_failed_121 (by decide) ?_
      refine va_iald hx hb hK hP 1 0 rfl rfl (by unfold vp_in; decide) dX12_failed_123 ?_
      refine lv_toc (v := 1) rfl ?_
      refine z_bi (wr := [(q_1, .inl (k 0, 27101, .inl (upd (upd (upd (fun _ => 0) 3300 x_0) 3301 x_1) 9 1)))]) (z_runV (C := RX12) (As := [.int 1]) (rest := []) C0 (c_X12_told_4 l D k q_0 q_1 q_2 q_3 q_4 q_5 q_6 q_7 q_8 q_9 q_10 q_11 q_12 q_13 q_14 q_15 q_16 q_17 q_18 q_19 q_20 q_21 q_22 q_23 q_24 q_25 0 x_3 x_4 x_5 x_6 x_7 x_8 g_9 x_10 x_11 x_12 x_13 x_14 x_15 x_16 x_17 g_18 g_19 x_20 x_21 x_22 x_23 x_24 x_25 x_26 x_27 x_28 x_29 x_30 x_31 x_32 _) okV_X12_told kM_X12_106 rfl (z_pV (q0 := 0) hK hN hP hD [0] rfl rfl rfl rfl rfl) rfl hl.1 rfl (Nat.le_of_ble_eq_true rfl) dX12_failed_124 rfl) hP hD hS hA [0] [1] rfl rfl rfl rfl (fun r12 u12 H locs hw12 hP hD hS => ?_)
      obtain ⟨i12, a12⟩ := u12
      dsimp only at hw12
      obtain ⟨rfl, rfl⟩ := hw12
      have hP : va_P D vwCl [(q_1, .inl (k 0, 27101, .inl (upd (upd (upd (fun _ => 0) 3300 x_0) 3301 x_1) 9 1))), (q_0, .inr (12, [.int 0, .int 0, .ref q_1, .ref q_2, .ref q_3, .int x_4, .ref q_4, .ref q_5, .ref q_6, .ref q_7, .ref q_8, .int x_5, .int x_6, .int x_7, .int x_8, .long g_9, .int x_10, .int x_11, .int x_12, .ref q_9, .int x_13, .ref q_10, .ref q_11, .int x_14, .ref q_12, .ref q_13, .int x_15, .int x_16, .ref q_14, .ref q_15, .ref q_16, .ref q_17, .int x_17, .long g_18, .long g_19, .int x_20, .int x_21, .int x_22, .int x_23, .ref q_18, .ref q_19, .int x_24, .int x_25, .int x_26, .int x_27, .ref q_20, .ref q_21, .int x_28, .int x_29, .ref q_22, .ref q_23, .ref q_24, .ref q_25, .int x_30, .int x_31, .int x_32]))] H := hP
      have hD : va_D A [(q_1, .inl (k 0, 27101, .inl (upd (upd (upd (fun _ => 0) 3300 x_0) 3301 x_1) 9 1))), (q_0, .inr (12, [.int 0, .int 0, .ref q_1, .ref q_2, .ref q_3, .int x_4, .ref q_4, .ref q_5, .ref q_6, .ref q_7, .ref q_8, .int x_5, .int x_6, .int x_7, .int x_8, .long g_9, .int x_10, .int x_11, .int x_12, .ref q_9, .int x_13, .ref q_10, .ref q_11, .int x_14, .ref q_12, .ref q_13, .int x_15, .int x_16, .ref q_14, .ref q_15, .ref q_16, .ref q_17, .int x_17, .long g_18, .long g_19, .int x_20, .int x_21, .int x_22, .int x_23, .ref q_18, .ref q_19, .int x_24, .int x_25, .int x_26, .int x_27, .ref q_20, .ref q_21, .int x_28, .int x_29, .ref q_22, .ref q_23, .ref q_24, .ref q_25, .int x_30, .int x_31, .int x_32]))] := hD
      exact z_iret C0 hr hlk rfl hK hP hD hS (1, fun _ => 0) (Or.inr (⟨rfl, rfl, ⟨c1, c5⟩⟩)) [] rfl rfl rfl dX12_failed_127

set_option maxHeartbeats 4000000 in
set_option maxRecDepth 100000 in
theorem c_X11_has_1 (l : Launch) (D : va_G) (k : Nat → ClassId) (q_0 : Nat) (q_1 : Nat) (q_2 : Nat) (q_3 : Nat) (q_4 : Nat) (q_5 : Nat) (q_6 : Nat) (q_7 : Nat) (q_8 : Nat) (q_9 : Nat) (q_10 : Nat) (q_11 : Nat) (q_12 : Nat) (q_13 : Nat) (q_14 : Nat) (q_15 : Nat) (q_16 : Nat) (q_17 : Nat) (q_18 : Nat) (q_19 : Nat) (q_20 : Nat) (q_21 : Nat) (q_22 : Nat) (q_23 : Nat) (x_0 : Int32) (x_1 : Int32) (x_2 : Int32) (x_3 : Int32) (x_4 : Int32) (x_5 : Int32) (x_6 : Int32) : zMi l yX11_has cX11_has 6 (some .int) ({ frames := 1, cells := 0, slots := 0, locals := 22 }) D k [.ref q_0, .int x_0, .int x_1, .int x_2, .int x_3] [(q_0, .inr (11, [.ref q_1, .ref q_3, .ref q_4, .ref q_5, .ref q_6, .int x_4])), (q_1, .inr (3, [.ref q_2, .ref q_7, .ref q_8, .ref q_9, .ref q_10, .ref q_11])), (q_2, .inr (6, [.int 0, .ref q_12, .ref q_13, .ref q_14, .ref q_15, .ref q_16, .int x_5, .ref q_17, .int x_6, .ref q_18, .ref q_19, .ref q_20, .ref q_21, .ref q_22, .ref q_23]))] (fun r u => (u.1 = 0 ∧ r = (-1) ∧ ((((x_1 < 0) ∨ (¬ x_1 < 0 ∧ ¬ x_1 ≤ 1))) ∨ (((¬ x_1 < 0 ∧ x_1 ≤ 1)) ∧ ((x_2 < 0) ∨ (¬ x_2 < 0 ∧ ¬ x_2 < 400))) ∨ (((¬ x_1 < 0 ∧ x_1 ≤ 1)) ∧ ((¬ x_2 < 0 ∧ x_2 < 400)) ∧ ((x_3 < 0) ∨ (¬ x_3 < 0 ∧ ¬ x_3 < 400))) ∨ (((¬ x_1 < 0 ∧ x_1 ≤ 1)) ∧ ((¬ x_2 < 0 ∧ x_2 < 400)) ∧ ((¬ x_3 < 0 ∧ x_3 < 400)) ∧ ¬ x_2 ≤ x_3))) ∨ (u.1 = 1 ∧ r = (-2) ∧ ((((¬ x_1 < 0 ∧ x_1 ≤ 1)) ∧ ((¬ x_2 < 0 ∧ x_2 < 400)) ∧ ((¬ x_3 < 0 ∧ x_3 < 400)) ∧ x_2 ≤ x_3)))) (fun u => []) := by
  refine zMi_of (own := RX11) (by decide +kernel) rfl (Nat.le_of_ble_eq_true rfl) ?_
  intro p e s m args below meth c A ls C0 hr hlk hin hP hD hS hA hK hN hl
  have hx := C0.1
  have hb := C0.2.1
  have hml := C0.2.2.1
  have hown := C0.2.2.2.1
  have hts := C0.2.2.2.2
  have hl : lv_has ls 6 [(0, .ref q_0), (1, .int x_0), (2, .int x_1), (3, .int x_2), (4, .int x_3)] := hl
  have hP : va_P D vwCl [(q_0, .inr (11, [.ref q_1, .ref q_3, .ref q_4, .ref q_5, .ref q_6, .int x_4])), (q_1, .inr (3, [.ref q_2, .ref q_7, .ref q_8, .ref q_9, .ref q_10, .ref q_11])), (q_2, .inr (6, [.int 0, .ref q_12, .ref q_13, .ref q_14, .ref q_15, .ref q_16, .int x_5, .ref q_17, .int x_6, .ref q_18, .ref q_19, .ref q_20, .ref q_21, .ref q_22, .ref q_23]))] s.heap := hP
  refine lv_aload_n hx hb dX11_has_0 rfl (lv_at hl 0 rfl) ?_
  refine va_get (D := D) (ci := 11) (v := .ref q_1) (C := RX11) (T := TX11) (N := 6) hx hb hts inX11 hown hK hP 0 rfl rfl 0 (by decide) (hts _ kF_X11_12) (fun _ h9 => h9) rfl dX11_has_1 ?_
  refine va_get (D := D) (ci := 3) (v := .ref q_2) (C := RX3) (T := TX3) (N := 6) hx hb hts inX3 hown hK hP 1 rfl rfl 0 (by decide) (hts _ kF_X11_43) (fun _ h9 => h9) rfl dX11_has_4 ?_
  refine lv_astore (lv' := [(5, .ref q_2), (0, .ref q_0), (1, .int x_0), (2, .int x_1), (3, .int x_2), (4, .int x_3)]) hx hb dX11_has_7 hl (by decide) rfl (fun ls hl => ?_)
  refine lv_iload_n hx hb dX11_has_9 rfl (lv_at hl 3 rfl) ?_
  refine lv_iconst (v := 0) hx hb dX11_has_10 (by decide) ?_
  refine lv_iconst (v := 1) hx hb dX11_has_11 (by decide) ?_
  refine z_bi0 (z_runS (As := [.int x_1, .int 0, .int 1]) (rest := []) C0 (c_X11_isOutside_1 l D k x_1 0 1 _) okS_X11_isOutside kM_X11_47 rfl (z_p0 hK hN) rfl hl.1 rfl (Nat.le_of_ble_eq_true rfl) dX11_has_12 rfl) hP hS hA (fun r1 u1 H locs hw1 hP hS => ?_)
  obtain ⟨i1, a1⟩ := u1
  dsimp only at hw1
  rcases hw1 with ⟨rfl, rfl, c1⟩ | ⟨rfl, rfl, c1⟩
  · refine lv_if_ne (tgt := 39) hx hb dX11_has_15 (by decide) (fun _ => ?_) (fun c2 => absurd c2 (by decide))
    refine lv_aload_n hx hb dX11_has_39 rfl (lv_at hl 1 rfl) ?_
    refine lv_iconst (v := (-1)) hx hb dX11_has_40 (by decide) ?_
    refine z_bi (wr := [(q_1, .inr (3, [.ref q_2, .ref q_7, .ref q_8, .ref q_9, .ref q_10, .ref q_11])), (q_2, .inr (6, [.int 0, .ref q_12, .ref q_13, .ref q_14, .ref q_15, .ref q_16, .int x_5, .ref q_17, .int x_6, .ref q_18, .ref q_19, .ref q_20, .ref q_21, .ref q_22, .ref q_23]))]) (z_runV (C := RX11) (As := [.int (-1)]) (rest := []) C0 (c_X11_answer_1 l D k q_0 q_1 q_3 q_4 q_5 q_6 x_4 _) okV_X11_answer kM_X11_55 rfl (z_pV (q0 := 0) hK hN hP hD [0] rfl rfl rfl rfl rfl) rfl hl.1 rfl (Nat.le_of_ble_eq_true rfl) dX11_has_41 rfl) hP hD hS hA [0] [1, 2] rfl rfl rfl rfl (fun r3 u3 H locs hw3 hP hD hS => ?_)
    obtain ⟨i3, a3⟩ := u3
    dsimp only at hw3
    obtain ⟨rfl, rfl⟩ := hw3
    have hP : va_P D vwCl [(q_1, .inr (3, [.ref q_2, .ref q_7, .ref q_8, .ref q_9, .ref q_10, .ref q_11])), (q_2, .inr (6, [.int 0, .ref q_12, .ref q_13, .ref q_14, .ref q_15, .ref q_16, .int x_5, .ref q_17, .int x_6, .ref q_18, .ref q_19, .ref q_20, .ref q_21, .ref q_22, .ref q_23])), (q_0, .inr (11, [.ref q_1, .ref q_3, .ref q_4, .ref q_5, .ref q_6, .int (-1)]))] H := hP
    have hD : va_D A [(q_1, .inr (3, [.ref q_2, .ref q_7, .ref q_8, .ref q_9, .ref q_10, .ref q_11])), (q_2, .inr (6, [.int 0, .ref q_12, .ref q_13, .ref q_14, .ref q_15, .ref q_16, .int x_5, .ref q_17, .int x_6, .ref q_18, .ref q_19, .ref q_20, .ref q_21, .ref q_22, .ref q_23])), (q_0, .inr (11, [.ref q_1, .ref q_3, .ref q_4, .ref q_5, .ref q_6, .int (-1)]))] := hD
    exact z_iret C0 hr hlk rfl hK hP hD hS (0, fun _ => 0) (Or.inl ⟨rfl, rfl, (Or.inl c1)⟩) [] rfl rfl rfl dX11_has_44
  · refine lv_if_ne (tgt := 39) hx hb dX11_has_15 (by decide) (fun c4 => absurd (by decide) c4) (fun _ => ?_)
    refine lv_iload_n hx hb dX11_has_18 rfl (lv_at hl 4 rfl) ?_
    refine z_bi0 (z_runS (As := [.int x_2]) (rest := []) C0 (c_X11_isNoDay_1 l D k x_2 _) okS_X11_isNoDay kM_X11_72 rfl (z_p0 hK hN) rfl hl.1 rfl (Nat.le_of_ble_eq_true rfl) dX11_has_19 rfl) hP hS hA (fun r5 u5 H locs hw5 hP hS => ?_)
    obtain ⟨i5, a5⟩ := u5
    dsimp only at hw5
    rcases hw5 with ⟨rfl, rfl, c5⟩ | ⟨rfl, rfl, c5⟩
    · refine lv_if_ne (tgt := 39) hx hb dX11_has_22 (by decide) (fun _ => ?_) (fun c6 => absurd c6 (by decide))
      refine lv_aload_n hx hb dX11_has_39 rfl (lv_at hl 1 rfl) ?_
      refine lv_iconst (v := (-1)) hx hb dX11_has_40 (by decide) ?_
      refine z_bi (wr := [(q_1, .inr (3, [.ref q_2, .ref q_7, .ref q_8, .ref q_9, .ref q_10, .ref q_11])), (q_2, .inr (6, [.int 0, .ref q_12, .ref q_13, .ref q_14, .ref q_15, .ref q_16, .int x_5, .ref q_17, .int x_6, .ref q_18, .ref q_19, .ref q_20, .ref q_21, .ref q_22, .ref q_23]))]) (z_runV (C := RX11) (As := [.int (-1)]) (rest := []) C0 (c_X11_answer_1 l D k q_0 q_1 q_3 q_4 q_5 q_6 x_4 _) okV_X11_answer kM_X11_55 rfl (z_pV (q0 := 0) hK hN hP hD [0] rfl rfl rfl rfl rfl) rfl hl.1 rfl (Nat.le_of_ble_eq_true rfl) dX11_has_41 rfl) hP hD hS hA [0] [1, 2] rfl rfl rfl rfl (fun r7 u7 H locs hw7 hP hD hS => ?_)
      obtain ⟨i7, a7⟩ := u7
      dsimp only at hw7
      obtain ⟨rfl, rfl⟩ := hw7
      have hP : va_P D vwCl [(q_1, .inr (3, [.ref q_2, .ref q_7, .ref q_8, .ref q_9, .ref q_10, .ref q_11])), (q_2, .inr (6, [.int 0, .ref q_12, .ref q_13, .ref q_14, .ref q_15, .ref q_16, .int x_5, .ref q_17, .int x_6, .ref q_18, .ref q_19, .ref q_20, .ref q_21, .ref q_22, .ref q_23])), (q_0, .inr (11, [.ref q_1, .ref q_3, .ref q_4, .ref q_5, .ref q_6, .int (-1)]))] H := hP
      have hD : va_D A [(q_1, .inr (3, [.ref q_2, .ref q_7, .ref q_8, .ref q_9, .ref q_10, .ref q_11])), (q_2, .inr (6, [.int 0, .ref q_12, .ref q_13, .ref q_14, .ref q_15, .ref q_16, .int x_5, .ref q_17, .int x_6, .ref q_18, .ref q_19, .ref q_20, .ref q_21, .ref q_22, .ref q_23])), (q_0, .inr (11, [.ref q_1, .ref q_3, .ref q_4, .ref q_5, .ref q_6, .int (-1)]))] := hD
      exact z_iret C0 hr hlk rfl hK hP hD hS (0, fun _ => 0) (Or.inl ⟨rfl, rfl, (Or.inr (Or.inl (⟨c1, c5⟩)))⟩) [] rfl rfl rfl dX11_has_44
    · refine lv_if_ne (tgt := 39) hx hb dX11_has_22 (by decide) (fun c8 => absurd (by decide) c8) (fun _ => ?_)
      refine lv_iload hx hb dX11_has_25 (lv_at hl 5 rfl) ?_
      refine z_bi0 (z_runS (As := [.int x_3]) (rest := []) C0 (c_X11_isNoDay_1 l D k x_3 _) okS_X11_isNoDay kM_X11_72 rfl (z_p0 hK hN) rfl hl.1 rfl (Nat.le_of_ble_eq_true rfl) dX11_has_27 rfl) hP hS hA (fun r9 u9 H locs hw9 hP hS => ?_)
      obtain ⟨i9, a9⟩ := u9
      dsimp only at hw9
      rcases hw9 with ⟨rfl, rfl, c9⟩ | ⟨rfl, rfl, c9⟩
      · refine lv_if_ne (tgt := 39) hx hb dX11_has_30 (by decide) (fun _ => ?_) (fun c10 => absurd c10 (by decide))
        refine lv_aload_n hx hb dX11_has_39 rfl (lv_at hl 1 rfl) ?_
        refine lv_iconst (v := (-1)) hx hb dX11_has_40 (by decide) ?_
        refine z_bi (wr := [(q_1, .inr (3, [.ref q_2, .ref q_7, .ref q_8, .ref q_9, .ref q_10, .ref q_11])), (q_2, .inr (6, [.int 0, .ref q_12, .ref q_13, .ref q_14, .ref q_15, .ref q_16, .int x_5, .ref q_17, .int x_6, .ref q_18, .ref q_19, .ref q_20, .ref q_21, .ref q_22, .ref q_23]))]) (z_runV (C := RX11) (As := [.int (-1)]) (rest := []) C0 (c_X11_answer_1 l D k q_0 q_1 q_3 q_4 q_5 q_6 x_4 _) okV_X11_answer kM_X11_55 rfl (z_pV (q0 := 0) hK hN hP hD [0] rfl rfl rfl rfl rfl) rfl hl.1 rfl (Nat.le_of_ble_eq_true rfl) dX11_has_41 rfl) hP hD hS hA [0] [1, 2] rfl rfl rfl rfl (fun r11 u11 H locs hw11 hP hD hS => ?_)
        obtain ⟨i11, a11⟩ := u11
        dsimp only at hw11
        obtain ⟨rfl, rfl⟩ := hw11
        have hP : va_P D vwCl [(q_1, .inr (3, [.ref q_2, .ref q_7, .ref q_8, .ref q_9, .ref q_10, .ref q_11])), (q_2, .inr (6, [.int 0, .ref q_12, .ref q_13, .ref q_14, .ref q_15, .ref q_16, .int x_5, .ref q_17, .int x_6, .ref q_18, .ref q_19, .ref q_20, .ref q_21, .ref q_22, .ref q_23])), (q_0, .inr (11, [.ref q_1, .ref q_3, .ref q_4, .ref q_5, .ref q_6, .int (-1)]))] H := hP
        have hD : va_D A [(q_1, .inr (3, [.ref q_2, .ref q_7, .ref q_8, .ref q_9, .ref q_10, .ref q_11])), (q_2, .inr (6, [.int 0, .ref q_12, .ref q_13, .ref q_14, .ref q_15, .ref q_16, .int x_5, .ref q_17, .int x_6, .ref q_18, .ref q_19, .ref q_20, .ref q_21, .ref q_22, .ref q_23])), (q_0, .inr (11, [.ref q_1, .ref q_3, .ref q_4, .ref q_5, .ref q_6, .int (-1)]))] := hD
        exact z_iret C0 hr hlk rfl hK hP hD hS (0, fun _ => 0) (Or.inl ⟨rfl, rfl, (Or.inr (Or.inr (Or.inl (⟨c1, c5, c9⟩))))⟩) [] rfl rfl rfl dX11_has_44
      · refine lv_if_ne (tgt := 39) hx hb dX11_has_30 (by decide) (fun c12 => absurd (by decide) c12) (fun _ => ?_)
        refine lv_iload_n hx hb dX11_has_33 rfl (lv_at hl 4 rfl) ?_
        refine lv_iload hx hb dX11_has_34 (lv_at hl 5 rfl) ?_
        refine lv_icmp_le (tgt := 45) hx hb dX11_has_36 (by decide) (fun c13 => ?_) (fun c13 => ?_)
        · refine lv_aload hx hb dX11_has_45 (lv_at hl 0 rfl) ?_
          refine lv_iload_n hx hb dX11_has_47 rfl (lv_at hl 2 rfl) ?_
          refine z_bi (wr := [(q_0, .inr (11, [.ref q_1, .ref q_3, .ref q_4, .ref q_5, .ref q_6, .int x_4])), (q_1, .inr (3, [.ref q_2, .ref q_7, .ref q_8, .ref q_9, .ref q_10, .ref q_11]))]) (z_runV (C := RX6) (As := [.int x_0]) (rest := []) C0 (c_X6_isNoChild_1 l D k q_2 q_12 q_13 q_14 q_15 q_16 q_17 q_18 q_19 q_20 q_21 q_22 q_23 x_0 x_5 x_6 _) okV_X6_isNoChild kM_X11_90 rfl (z_pV (q0 := 2) hK hN hP hD [2] rfl rfl rfl rfl rfl) rfl hl.1 rfl (Nat.le_of_ble_eq_true rfl) dX11_has_48 rfl) hP hD hS hA [2] [0, 1] rfl rfl rfl rfl (fun r14 u14 H locs hw14 hP hD hS => ?_)
          obtain ⟨i14, a14⟩ := u14
          dsimp only at hw14
          obtain ⟨rfl, rfl⟩ := hw14
          have hP : va_P D vwCl [(q_0, .inr (11, [.ref q_1, .ref q_3, .ref q_4, .ref q_5, .ref q_6, .int x_4])), (q_1, .inr (3, [.ref q_2, .ref q_7, .ref q_8, .ref q_9, .ref q_10, .ref q_11])), (q_2, .inr (6, [.int 0, .ref q_12, .ref q_13, .ref q_14, .ref q_15, .ref q_16, .int x_5, .ref q_17, .int x_6, .ref q_18, .ref q_19, .ref q_20, .ref q_21, .ref q_22, .ref q_23]))] H := hP
          have hD : va_D A [(q_0, .inr (11, [.ref q_1, .ref q_3, .ref q_4, .ref q_5, .ref q_6, .int x_4])), (q_1, .inr (3, [.ref q_2, .ref q_7, .ref q_8, .ref q_9, .ref q_10, .ref q_11])), (q_2, .inr (6, [.int 0, .ref q_12, .ref q_13, .ref q_14, .ref q_15, .ref q_16, .int x_5, .ref q_17, .int x_6, .ref q_18, .ref q_19, .ref q_20, .ref q_21, .ref q_22, .ref q_23]))] := hD
          refine lv_if_eq (tgt := 61) hx hb dX11_has_51 (by decide) (fun c15 => absurd c15 (by decide)) (fun _ => ?_)
          refine lv_aload_n hx hb dX11_has_54 rfl (lv_at hl 1 rfl) ?_
          refine lv_bipush (v := (-2)) hx hb dX11_has_55 (by decide) ?_
          refine z_bi (wr := [(q_1, .inr (3, [.ref q_2, .ref q_7, .ref q_8, .ref q_9, .ref q_10, .ref q_11])), (q_2, .inr (6, [.int 0, .ref q_12, .ref q_13, .ref q_14, .ref q_15, .ref q_16, .int x_5, .ref q_17, .int x_6, .ref q_18, .ref q_19, .ref q_20, .ref q_21, .ref q_22, .ref q_23]))]) (z_runV (C := RX11) (As := [.int (-2)]) (rest := []) C0 (c_X11_answer_3 l D k q_0 q_1 q_3 q_4 q_5 q_6 x_4 _) okV_X11_answer kM_X11_55 rfl (z_pV (q0 := 0) hK hN hP hD [0] rfl rfl rfl rfl rfl) rfl hl.1 rfl (Nat.le_of_ble_eq_true rfl) dX11_has_57 rfl) hP hD hS hA [0] [1, 2] rfl rfl rfl rfl (fun r16 u16 H locs hw16 hP hD hS => ?_)
          obtain ⟨i16, a16⟩ := u16
          dsimp only at hw16
          obtain ⟨rfl, rfl⟩ := hw16
          have hP : va_P D vwCl [(q_1, .inr (3, [.ref q_2, .ref q_7, .ref q_8, .ref q_9, .ref q_10, .ref q_11])), (q_2, .inr (6, [.int 0, .ref q_12, .ref q_13, .ref q_14, .ref q_15, .ref q_16, .int x_5, .ref q_17, .int x_6, .ref q_18, .ref q_19, .ref q_20, .ref q_21, .ref q_22, .ref q_23])), (q_0, .inr (11, [.ref q_1, .ref q_3, .ref q_4, .ref q_5, .ref q_6, .int (-2)]))] H := hP
          have hD : va_D A [(q_1, .inr (3, [.ref q_2, .ref q_7, .ref q_8, .ref q_9, .ref q_10, .ref q_11])), (q_2, .inr (6, [.int 0, .ref q_12, .ref q_13, .ref q_14, .ref q_15, .ref q_16, .int x_5, .ref q_17, .int x_6, .ref q_18, .ref q_19, .ref q_20, .ref q_21, .ref q_22, .ref q_23])), (q_0, .inr (11, [.ref q_1, .ref q_3, .ref q_4, .ref q_5, .ref q_6, .int (-2)]))] := hD
          exact z_iret C0 hr hlk rfl hK hP hD hS (1, fun _ => 0) (Or.inr (⟨rfl, rfl, ⟨c1, c5, c9, c13⟩⟩)) [] rfl rfl rfl dX11_has_60
        · refine lv_aload_n hx hb dX11_has_39 rfl (lv_at hl 1 rfl) ?_
          refine lv_iconst (v := (-1)) hx hb dX11_has_40 (by decide) ?_
          refine z_bi (wr := [(q_1, .inr (3, [.ref q_2, .ref q_7, .ref q_8, .ref q_9, .ref q_10, .ref q_11])), (q_2, .inr (6, [.int 0, .ref q_12, .ref q_13, .ref q_14, .ref q_15, .ref q_16, .int x_5, .ref q_17, .int x_6, .ref q_18, .ref q_19, .ref q_20, .ref q_21, .ref q_22, .ref q_23]))]) (z_runV (C := RX11) (As := [.int (-1)]) (rest := []) C0 (c_X11_answer_1 l D k q_0 q_1 q_3 q_4 q_5 q_6 x_4 _) okV_X11_answer kM_X11_55 rfl (z_pV (q0 := 0) hK hN hP hD [0] rfl rfl rfl rfl rfl) rfl hl.1 rfl (Nat.le_of_ble_eq_true rfl) dX11_has_41 rfl) hP hD hS hA [0] [1, 2] rfl rfl rfl rfl (fun r17 u17 H locs hw17 hP hD hS => ?_)
          obtain ⟨i17, a17⟩ := u17
          dsimp only at hw17
          obtain ⟨rfl, rfl⟩ := hw17
          have hP : va_P D vwCl [(q_1, .inr (3, [.ref q_2, .ref q_7, .ref q_8, .ref q_9, .ref q_10, .ref q_11])), (q_2, .inr (6, [.int 0, .ref q_12, .ref q_13, .ref q_14, .ref q_15, .ref q_16, .int x_5, .ref q_17, .int x_6, .ref q_18, .ref q_19, .ref q_20, .ref q_21, .ref q_22, .ref q_23])), (q_0, .inr (11, [.ref q_1, .ref q_3, .ref q_4, .ref q_5, .ref q_6, .int (-1)]))] H := hP
          have hD : va_D A [(q_1, .inr (3, [.ref q_2, .ref q_7, .ref q_8, .ref q_9, .ref q_10, .ref q_11])), (q_2, .inr (6, [.int 0, .ref q_12, .ref q_13, .ref q_14, .ref q_15, .ref q_16, .int x_5, .ref q_17, .int x_6, .ref q_18, .ref q_19, .ref q_20, .ref q_21, .ref q_22, .ref q_23])), (q_0, .inr (11, [.ref q_1, .ref q_3, .ref q_4, .ref q_5, .ref q_6, .int (-1)]))] := hD
          exact z_iret C0 hr hlk rfl hK hP hD hS (0, fun _ => 0) (Or.inl ⟨rfl, rfl, (Or.inr (Or.inr (Or.inr (⟨c1, c5, c9, c13⟩))))⟩) [] rfl rfl rfl dX11_has_44

set_option maxHeartbeats 4000000 in
set_option maxRecDepth 100000 in
theorem c_X12_has_1 (l : Launch) (D : va_G) (k : Nat → ClassId) (q_0 : Nat) (q_1 : Nat) (q_2 : Nat) (q_3 : Nat) (q_4 : Nat) (q_5 : Nat) (q_6 : Nat) (q_7 : Nat) (q_8 : Nat) (q_9 : Nat) (q_10 : Nat) (q_11 : Nat) (q_12 : Nat) (q_13 : Nat) (q_14 : Nat) (q_15 : Nat) (q_16 : Nat) (q_17 : Nat) (q_18 : Nat) (q_19 : Nat) (q_20 : Nat) (q_21 : Nat) (q_22 : Nat) (q_23 : Nat) (q_24 : Nat) (q_25 : Nat) (x_0 : Int32) (x_1 : Int32) (x_2 : Int32) (x_3 : Int32) (x_4 : Int32) (x_5 : Int32) (x_6 : Int32) (x_7 : Int32) (x_8 : Int32) (x_9 : Int32) (x_10 : Int32) (g_11 : Int64) (x_12 : Int32) (x_13 : Int32) (x_14 : Int32) (x_15 : Int32) (x_16 : Int32) (x_17 : Int32) (x_18 : Int32) (x_19 : Int32) (g_20 : Int64) (g_21 : Int64) (x_22 : Int32) (x_23 : Int32) (x_24 : Int32) (x_25 : Int32) (x_26 : Int32) (x_27 : Int32) (x_28 : Int32) (x_29 : Int32) (x_30 : Int32) (x_31 : Int32) (x_32 : Int32) (x_33 : Int32) (x_34 : Int32) : zMi l yX12_has cX12_has 6 (some .int) ({ frames := 2, cells := 0, slots := 0, locals := 46 }) D k [.ref q_0, .int x_0, .int x_1, .int x_2, .int x_3] [(q_0, .inr (12, [.int x_4, .int x_5, .ref q_1, .ref q_2, .ref q_3, .int x_6, .ref q_4, .ref q_5, .ref q_6, .ref q_7, .ref q_8, .int x_7, .int x_8, .int x_9, .int x_10, .long g_11, .int x_12, .int x_13, .int x_14, .ref q_9, .int x_15, .ref q_10, .ref q_11, .int x_16, .ref q_12, .ref q_13, .int x_17, .int x_18, .ref q_14, .ref q_15, .ref q_16, .ref q_17, .int x_19, .long g_20, .long g_21, .int x_22, .int x_23, .int x_24, .int x_25, .ref q_18, .ref q_19, .int x_26, .int x_27, .int x_28, .int x_29, .ref q_20, .ref q_21, .int x_30, .int x_31, .ref q_22, .ref q_23, .ref q_24, .ref q_25, .int x_32, .int x_33, .int x_34])), (q_1, .inl (k 0, 27101, .inl (fun _ => 0)))] (fun r u => (u.1 = 0 ∧ r = (-1) ∧ (((((Int32.toInt64 x_1) < 0) ∨ (¬ (Int32.toInt64 x_1) < 0 ∧ (1 : Int64) < (Int32.toInt64 x_1)))) ∨ (((¬ (Int32.toInt64 x_1) < 0 ∧ ¬ (1 : Int64) < (Int32.toInt64 x_1))) ∧ (((Int32.toInt64 x_3) < 0) ∨ (¬ (Int32.toInt64 x_3) < 0 ∧ (399 : Int64) < (Int32.toInt64 x_3)))) ∨ (((¬ (Int32.toInt64 x_1) < 0 ∧ ¬ (1 : Int64) < (Int32.toInt64 x_1))) ∧ ((¬ (Int32.toInt64 x_3) < 0 ∧ ¬ (399 : Int64) < (Int32.toInt64 x_3))) ∧ (((Int32.toInt64 x_2) < 0) ∨ (¬ (Int32.toInt64 x_2) < 0 ∧ (Int32.toInt64 x_3) < (Int32.toInt64 x_2)))))) ∨ (u.1 = 1 ∧ r = (-2) ∧ ((((¬ (Int32.toInt64 x_1) < 0 ∧ ¬ (1 : Int64) < (Int32.toInt64 x_1))) ∧ ((¬ (Int32.toInt64 x_3) < 0 ∧ ¬ (399 : Int64) < (Int32.toInt64 x_3))) ∧ ((¬ (Int32.toInt64 x_2) < 0 ∧ ¬ (Int32.toInt64 x_3) < (Int32.toInt64 x_2))))))) (fun u => []) := by
  refine zMi_of (own := RX12) (by decide +kernel) rfl (Nat.le_of_ble_eq_true rfl) ?_
  intro p e s m args below meth c A ls C0 hr hlk hin hP hD hS hA hK hN hl
  have hx := C0.1
  have hb := C0.2.1
  have hml := C0.2.2.1
  have hown := C0.2.2.2.1
  have hts := C0.2.2.2.2
  have hl : lv_has ls 6 [(0, .ref q_0), (1, .int x_0), (2, .int x_1), (3, .int x_2), (4, .int x_3)] := hl
  have hP : va_P D vwCl [(q_0, .inr (12, [.int x_4, .int x_5, .ref q_1, .ref q_2, .ref q_3, .int x_6, .ref q_4, .ref q_5, .ref q_6, .ref q_7, .ref q_8, .int x_7, .int x_8, .int x_9, .int x_10, .long g_11, .int x_12, .int x_13, .int x_14, .ref q_9, .int x_15, .ref q_10, .ref q_11, .int x_16, .ref q_12, .ref q_13, .int x_17, .int x_18, .ref q_14, .ref q_15, .ref q_16, .ref q_17, .int x_19, .long g_20, .long g_21, .int x_22, .int x_23, .int x_24, .int x_25, .ref q_18, .ref q_19, .int x_26, .int x_27, .int x_28, .int x_29, .ref q_20, .ref q_21, .int x_30, .int x_31, .ref q_22, .ref q_23, .ref q_24, .ref q_25, .int x_32, .int x_33, .int x_34])), (q_1, .inl (k 0, 27101, .inl (fun _ => 0)))] s.heap := hP
  refine lv_aload_n hx hb dX12_has_0 rfl (lv_at hl 0 rfl) ?_
  refine lv_iconst (v := 0) hx hb dX12_has_1 (by decide) ?_
  refine va_put (D := D) (ci := 12) (v := .int 0) (ty := .int) (C := RX12) (T := TX12) (N := 56) hx hb hts inX12 tyX12 tyX12_ok nmX12 hown hK hP hD hS 0 rfl rfl 0 (by decide) (hts _ kF_X12_92) (fun _ h9 => h9) rfl (by decide +kernel) rfl rfl (Nat.le_of_ble_eq_true rfl) dX12_has_2 (fun H locs hP hD hS => ?_)
  have hP : va_P D vwCl [(q_0, .inr (12, [.int 0, .int x_5, .ref q_1, .ref q_2, .ref q_3, .int x_6, .ref q_4, .ref q_5, .ref q_6, .ref q_7, .ref q_8, .int x_7, .int x_8, .int x_9, .int x_10, .long g_11, .int x_12, .int x_13, .int x_14, .ref q_9, .int x_15, .ref q_10, .ref q_11, .int x_16, .ref q_12, .ref q_13, .int x_17, .int x_18, .ref q_14, .ref q_15, .ref q_16, .ref q_17, .int x_19, .long g_20, .long g_21, .int x_22, .int x_23, .int x_24, .int x_25, .ref q_18, .ref q_19, .int x_26, .int x_27, .int x_28, .int x_29, .ref q_20, .ref q_21, .int x_30, .int x_31, .ref q_22, .ref q_23, .ref q_24, .ref q_25, .int x_32, .int x_33, .int x_34])), (q_1, .inl (k 0, 27101, .inl (fun _ => 0)))] H := hP
  have hD : va_D A [(q_0, .inr (12, [.int 0, .int x_5, .ref q_1, .ref q_2, .ref q_3, .int x_6, .ref q_4, .ref q_5, .ref q_6, .ref q_7, .ref q_8, .int x_7, .int x_8, .int x_9, .int x_10, .long g_11, .int x_12, .int x_13, .int x_14, .ref q_9, .int x_15, .ref q_10, .ref q_11, .int x_16, .ref q_12, .ref q_13, .int x_17, .int x_18, .ref q_14, .ref q_15, .ref q_16, .ref q_17, .int x_19, .long g_20, .long g_21, .int x_22, .int x_23, .int x_24, .int x_25, .ref q_18, .ref q_19, .int x_26, .int x_27, .int x_28, .int x_29, .ref q_20, .ref q_21, .int x_30, .int x_31, .ref q_22, .ref q_23, .ref q_24, .ref q_25, .int x_32, .int x_33, .int x_34])), (q_1, .inl (k 0, 27101, .inl (fun _ => 0)))] := hD
  refine lv_iload_n hx hb dX12_has_5 rfl (lv_at hl 2 rfl) ?_
  refine lv_i2l (v := (Int32.toInt64 x_1)) hx hb dX12_has_6 rfl ?_
  refine lv_lconst (v := 0) hx hb dX12_has_7 (by decide) ?_
  refine lv_lconst (v := 1) hx hb dX12_has_8 (by decide) ?_
  refine z_bi0 (z_runS (As := [.long (Int32.toInt64 x_1), .long 0, .long 1]) (rest := []) C0 (c_X12_in_1 l D k (Int32.toInt64 x_1) 0 1 _) okS_X12_in kM_X12_100 rfl (z_p0 hK hN) rfl hl.1 rfl (Nat.le_of_ble_eq_true rfl) dX12_has_9 rfl) hP hS hA (fun r1 u1 H locs hw1 hP hS => ?_)
  obtain ⟨i1, a1⟩ := u1
  dsimp only at hw1
  rcases hw1 with ⟨rfl, rfl, c1⟩ | ⟨rfl, rfl, c1⟩
  · refine lv_if_eq (tgt := 35) hx hb dX12_has_12 (by decide) (fun _ => ?_) (fun c2 => absurd (by decide) c2)
    refine lv_aload_n hx hb dX12_has_35 rfl (lv_at hl 0 rfl) ?_
    refine lv_iconst (v := (-1)) hx hb dX12_has_36 (by decide) ?_
    refine z_bi (wr := [(q_1, .inl (k 0, 27101, .inl (fun _ => 0)))]) (z_runV (C := RX12) (As := [.int (-1)]) (rest := []) C0 (c_X12_told_1 l D k q_0 q_1 q_2 q_3 q_4 q_5 q_6 q_7 q_8 q_9 q_10 q_11 q_12 q_13 q_14 q_15 q_16 q_17 q_18 q_19 q_20 q_21 q_22 q_23 q_24 q_25 0 x_5 x_6 x_7 x_8 x_9 x_10 g_11 x_12 x_13 x_14 x_15 x_16 x_17 x_18 x_19 g_20 g_21 x_22 x_23 x_24 x_25 x_26 x_27 x_28 x_29 x_30 x_31 x_32 x_33 x_34 _) okV_X12_told kM_X12_106 rfl (z_pV (q0 := 0) hK hN hP hD [0] rfl rfl rfl rfl rfl) rfl hl.1 rfl (Nat.le_of_ble_eq_true rfl) dX12_has_37 rfl) hP hD hS hA [0] [1] rfl rfl rfl rfl (fun r3 u3 H locs hw3 hP hD hS => ?_)
    obtain ⟨i3, a3⟩ := u3
    dsimp only at hw3
    obtain ⟨rfl, rfl⟩ := hw3
    have hP : va_P D vwCl [(q_1, .inl (k 0, 27101, .inl (fun _ => 0))), (q_0, .inr (12, [.int 0, .int (-1), .ref q_1, .ref q_2, .ref q_3, .int x_6, .ref q_4, .ref q_5, .ref q_6, .ref q_7, .ref q_8, .int x_7, .int x_8, .int x_9, .int x_10, .long g_11, .int x_12, .int x_13, .int x_14, .ref q_9, .int x_15, .ref q_10, .ref q_11, .int x_16, .ref q_12, .ref q_13, .int x_17, .int x_18, .ref q_14, .ref q_15, .ref q_16, .ref q_17, .int x_19, .long g_20, .long g_21, .int x_22, .int x_23, .int x_24, .int x_25, .ref q_18, .ref q_19, .int x_26, .int x_27, .int x_28, .int x_29, .ref q_20, .ref q_21, .int x_30, .int x_31, .ref q_22, .ref q_23, .ref q_24, .ref q_25, .int x_32, .int x_33, .int x_34]))] H := hP
    have hD : va_D A [(q_1, .inl (k 0, 27101, .inl (fun _ => 0))), (q_0, .inr (12, [.int 0, .int (-1), .ref q_1, .ref q_2, .ref q_3, .int x_6, .ref q_4, .ref q_5, .ref q_6, .ref q_7, .ref q_8, .int x_7, .int x_8, .int x_9, .int x_10, .long g_11, .int x_12, .int x_13, .int x_14, .ref q_9, .int x_15, .ref q_10, .ref q_11, .int x_16, .ref q_12, .ref q_13, .int x_17, .int x_18, .ref q_14, .ref q_15, .ref q_16, .ref q_17, .int x_19, .long g_20, .long g_21, .int x_22, .int x_23, .int x_24, .int x_25, .ref q_18, .ref q_19, .int x_26, .int x_27, .int x_28, .int x_29, .ref q_20, .ref q_21, .int x_30, .int x_31, .ref q_22, .ref q_23, .ref q_24, .ref q_25, .int x_32, .int x_33, .int x_34]))] := hD
    exact z_iret C0 hr hlk rfl hK hP hD hS (0, fun _ => 0) (Or.inl ⟨rfl, rfl, (Or.inl c1)⟩) [] rfl rfl rfl dX12_has_40
  · refine lv_if_eq (tgt := 35) hx hb dX12_has_12 (by decide) (fun c4 => absurd c4 (by decide)) (fun _ => ?_)
    refine lv_iload hx hb dX12_has_15 (lv_at hl 4 rfl) ?_
    refine z_bi0 (z_runS (As := [.int x_3]) (rest := []) C0 (c_X12_isDay_1 l D k x_3 _) okS_X12_isDay kM_X12_127 rfl (z_p0 hK hN) rfl hl.1 rfl (Nat.le_of_ble_eq_true rfl) dX12_has_17 rfl) hP hS hA (fun r5 u5 H locs hw5 hP hS => ?_)
    obtain ⟨i5, a5⟩ := u5
    dsimp only at hw5
    rcases hw5 with ⟨rfl, rfl, c5⟩ | ⟨rfl, rfl, c5⟩
    · refine lv_if_eq (tgt := 35) hx hb dX12_has_20 (by decide) (fun _ => ?_) (fun c6 => absurd (by decide) c6)
      refine lv_aload_n hx hb dX12_has_35 rfl (lv_at hl 0 rfl) ?_
      refine lv_iconst (v := (-1)) hx hb dX12_has_36 (by decide) ?_
      refine z_bi (wr := [(q_1, .inl (k 0, 27101, .inl (fun _ => 0)))]) (z_runV (C := RX12) (As := [.int (-1)]) (rest := []) C0 (c_X12_told_1 l D k q_0 q_1 q_2 q_3 q_4 q_5 q_6 q_7 q_8 q_9 q_10 q_11 q_12 q_13 q_14 q_15 q_16 q_17 q_18 q_19 q_20 q_21 q_22 q_23 q_24 q_25 0 x_5 x_6 x_7 x_8 x_9 x_10 g_11 x_12 x_13 x_14 x_15 x_16 x_17 x_18 x_19 g_20 g_21 x_22 x_23 x_24 x_25 x_26 x_27 x_28 x_29 x_30 x_31 x_32 x_33 x_34 _) okV_X12_told kM_X12_106 rfl (z_pV (q0 := 0) hK hN hP hD [0] rfl rfl rfl rfl rfl) rfl hl.1 rfl (Nat.le_of_ble_eq_true rfl) dX12_has_37 rfl) hP hD hS hA [0] [1] rfl rfl rfl rfl (fun r7 u7 H locs hw7 hP hD hS => ?_)
      obtain ⟨i7, a7⟩ := u7
      dsimp only at hw7
      obtain ⟨rfl, rfl⟩ := hw7
      have hP : va_P D vwCl [(q_1, .inl (k 0, 27101, .inl (fun _ => 0))), (q_0, .inr (12, [.int 0, .int (-1), .ref q_1, .ref q_2, .ref q_3, .int x_6, .ref q_4, .ref q_5, .ref q_6, .ref q_7, .ref q_8, .int x_7, .int x_8, .int x_9, .int x_10, .long g_11, .int x_12, .int x_13, .int x_14, .ref q_9, .int x_15, .ref q_10, .ref q_11, .int x_16, .ref q_12, .ref q_13, .int x_17, .int x_18, .ref q_14, .ref q_15, .ref q_16, .ref q_17, .int x_19, .long g_20, .long g_21, .int x_22, .int x_23, .int x_24, .int x_25, .ref q_18, .ref q_19, .int x_26, .int x_27, .int x_28, .int x_29, .ref q_20, .ref q_21, .int x_30, .int x_31, .ref q_22, .ref q_23, .ref q_24, .ref q_25, .int x_32, .int x_33, .int x_34]))] H := hP
      have hD : va_D A [(q_1, .inl (k 0, 27101, .inl (fun _ => 0))), (q_0, .inr (12, [.int 0, .int (-1), .ref q_1, .ref q_2, .ref q_3, .int x_6, .ref q_4, .ref q_5, .ref q_6, .ref q_7, .ref q_8, .int x_7, .int x_8, .int x_9, .int x_10, .long g_11, .int x_12, .int x_13, .int x_14, .ref q_9, .int x_15, .ref q_10, .ref q_11, .int x_16, .ref q_12, .ref q_13, .int x_17, .int x_18, .ref q_14, .ref q_15, .ref q_16, .ref q_17, .int x_19, .long g_20, .long g_21, .int x_22, .int x_23, .int x_24, .int x_25, .ref q_18, .ref q_19, .int x_26, .int x_27, .int x_28, .int x_29, .ref q_20, .ref q_21, .int x_30, .int x_31, .ref q_22, .ref q_23, .ref q_24, .ref q_25, .int x_32, .int x_33, .int x_34]))] := hD
      exact z_iret C0 hr hlk rfl hK hP hD hS (0, fun _ => 0) (Or.inl ⟨rfl, rfl, (Or.inr (Or.inl (⟨c1, c5⟩)))⟩) [] rfl rfl rfl dX12_has_40
    · refine lv_if_eq (tgt := 35) hx hb dX12_has_20 (by decide) (fun c8 => absurd c8 (by decide)) (fun _ => ?_)
      refine lv_iload_n hx hb dX12_has_23 rfl (lv_at hl 3 rfl) ?_
      refine lv_i2l (v := (Int32.toInt64 x_2)) hx hb dX12_has_24 rfl ?_
      refine lv_lconst (v := 0) hx hb dX12_has_25 (by decide) ?_
      refine lv_iload hx hb dX12_has_26 (lv_at hl 4 rfl) ?_
      refine lv_i2l (v := (Int32.toInt64 x_3)) hx hb dX12_has_28 rfl ?_
      refine z_bi0 (z_runS (As := [.long (Int32.toInt64 x_2), .long 0, .long (Int32.toInt64 x_3)]) (rest := []) C0 (c_X12_in_1 l D k (Int32.toInt64 x_2) 0 (Int32.toInt64 x_3) _) okS_X12_in kM_X12_100 rfl (z_p0 hK hN) rfl hl.1 rfl (Nat.le_of_ble_eq_true rfl) dX12_has_29 rfl) hP hS hA (fun r9 u9 H locs hw9 hP hS => ?_)
      obtain ⟨i9, a9⟩ := u9
      dsimp only at hw9
      rcases hw9 with ⟨rfl, rfl, c9⟩ | ⟨rfl, rfl, c9⟩
      · refine lv_if_ne (tgt := 41) hx hb dX12_has_32 (by decide) (fun c10 => absurd (by decide) c10) (fun _ => ?_)
        refine lv_aload_n hx hb dX12_has_35 rfl (lv_at hl 0 rfl) ?_
        refine lv_iconst (v := (-1)) hx hb dX12_has_36 (by decide) ?_
        refine z_bi (wr := [(q_1, .inl (k 0, 27101, .inl (fun _ => 0)))]) (z_runV (C := RX12) (As := [.int (-1)]) (rest := []) C0 (c_X12_told_1 l D k q_0 q_1 q_2 q_3 q_4 q_5 q_6 q_7 q_8 q_9 q_10 q_11 q_12 q_13 q_14 q_15 q_16 q_17 q_18 q_19 q_20 q_21 q_22 q_23 q_24 q_25 0 x_5 x_6 x_7 x_8 x_9 x_10 g_11 x_12 x_13 x_14 x_15 x_16 x_17 x_18 x_19 g_20 g_21 x_22 x_23 x_24 x_25 x_26 x_27 x_28 x_29 x_30 x_31 x_32 x_33 x_34 _) okV_X12_told kM_X12_106 rfl (z_pV (q0 := 0) hK hN hP hD [0] rfl rfl rfl rfl rfl) rfl hl.1 rfl (Nat.le_of_ble_eq_true rfl) dX12_has_37 rfl) hP hD hS hA [0] [1] rfl rfl rfl rfl (fun r11 u11 H locs hw11 hP hD hS => ?_)
        obtain ⟨i11, a11⟩ := u11
        dsimp only at hw11
        obtain ⟨rfl, rfl⟩ := hw11
        have hP : va_P D vwCl [(q_1, .inl (k 0, 27101, .inl (fun _ => 0))), (q_0, .inr (12, [.int 0, .int (-1), .ref q_1, .ref q_2, .ref q_3, .int x_6, .ref q_4, .ref q_5, .ref q_6, .ref q_7, .ref q_8, .int x_7, .int x_8, .int x_9, .int x_10, .long g_11, .int x_12, .int x_13, .int x_14, .ref q_9, .int x_15, .ref q_10, .ref q_11, .int x_16, .ref q_12, .ref q_13, .int x_17, .int x_18, .ref q_14, .ref q_15, .ref q_16, .ref q_17, .int x_19, .long g_20, .long g_21, .int x_22, .int x_23, .int x_24, .int x_25, .ref q_18, .ref q_19, .int x_26, .int x_27, .int x_28, .int x_29, .ref q_20, .ref q_21, .int x_30, .int x_31, .ref q_22, .ref q_23, .ref q_24, .ref q_25, .int x_32, .int x_33, .int x_34]))] H := hP
        have hD : va_D A [(q_1, .inl (k 0, 27101, .inl (fun _ => 0))), (q_0, .inr (12, [.int 0, .int (-1), .ref q_1, .ref q_2, .ref q_3, .int x_6, .ref q_4, .ref q_5, .ref q_6, .ref q_7, .ref q_8, .int x_7, .int x_8, .int x_9, .int x_10, .long g_11, .int x_12, .int x_13, .int x_14, .ref q_9, .int x_15, .ref q_10, .ref q_11, .int x_16, .ref q_12, .ref q_13, .int x_17, .int x_18, .ref q_14, .ref q_15, .ref q_16, .ref q_17, .int x_19, .long g_20, .long g_21, .int x_22, .int x_23, .int x_24, .int x_25, .ref q_18, .ref q_19, .int x_26, .int x_27, .int x_28, .int x_29, .ref q_20, .ref q_21, .int x_30, .int x_31, .ref q_22, .ref q_23, .ref q_24, .ref q_25, .int x_32, .int x_33, .int x_34]))] := hD
        exact z_iret C0 hr hlk rfl hK hP hD hS (0, fun _ => 0) (Or.inl ⟨rfl, rfl, (Or.inr (Or.inr (⟨c1, c5, c9⟩)))⟩) [] rfl rfl rfl dX12_has_40
      · refine lv_if_ne (tgt := 41) hx hb dX12_has_32 (by decide) (fun _ => ?_) (fun c12 => absurd c12 (by decide))
        refine lv_aload_n hx hb dX12_has_41 rfl (lv_at hl 0 rfl) ?_
        refine lv_iload_n hx hb dX12_has_42 rfl (lv_at hl 1 rfl) ?_
        refine z_bi (wr := []) (z_runV (C := RX12) (As := [.int x_0]) (rest := []) C0 (c_X12_isChild_1 l D k q_0 q_1 q_2 q_3 q_4 q_5 q_6 q_7 q_8 q_9 q_10 q_11 q_12 q_13 q_14 q_15 q_16 q_17 q_18 q_19 q_20 q_21 q_22 q_23 q_24 q_25 x_0 0 x_5 x_6 x_7 x_8 x_9 x_10 g_11 x_12 x_13 x_14 x_15 x_16 x_17 x_18 x_19 g_20 g_21 x_22 x_23 x_24 x_25 x_26 x_27 x_28 x_29 x_30 x_31 x_32 x_33 x_34 _) okV_X12_isChild kM_X12_138 rfl (z_pV (q0 := 0) hK hN hP hD [0, 1] rfl rfl rfl rfl rfl) rfl hl.1 rfl (Nat.le_of_ble_eq_true rfl) dX12_has_43 rfl) hP hD hS hA [0, 1] [] rfl rfl rfl rfl (fun r13 u13 H locs hw13 hP hD hS => ?_)
        obtain ⟨i13, a13⟩ := u13
        dsimp only at hw13
        obtain ⟨rfl, rfl⟩ := hw13
        have hP : va_P D vwCl [(q_0, .inr (12, [.int 0, .int x_5, .ref q_1, .ref q_2, .ref q_3, .int x_6, .ref q_4, .ref q_5, .ref q_6, .ref q_7, .ref q_8, .int x_7, .int x_8, .int x_9, .int x_10, .long g_11, .int x_12, .int x_13, .int x_14, .ref q_9, .int x_15, .ref q_10, .ref q_11, .int x_16, .ref q_12, .ref q_13, .int x_17, .int x_18, .ref q_14, .ref q_15, .ref q_16, .ref q_17, .int x_19, .long g_20, .long g_21, .int x_22, .int x_23, .int x_24, .int x_25, .ref q_18, .ref q_19, .int x_26, .int x_27, .int x_28, .int x_29, .ref q_20, .ref q_21, .int x_30, .int x_31, .ref q_22, .ref q_23, .ref q_24, .ref q_25, .int x_32, .int x_33, .int x_34])), (q_1, .inl (k 0, 27101, .inl (fun _ => 0)))] H := hP
        have hD : va_D A [(q_0, .inr (12, [.int 0, .int x_5, .ref q_1, .ref q_2, .ref q_3, .int x_6, .ref q_4, .ref q_5, .ref q_6, .ref q_7, .ref q_8, .int x_7, .int x_8, .int x_9, .int x_10, .long g_11, .int x_12, .int x_13, .int x_14, .ref q_9, .int x_15, .ref q_10, .ref q_11, .int x_16, .ref q_12, .ref q_13, .int x_17, .int x_18, .ref q_14, .ref q_15, .ref q_16, .ref q_17, .int x_19, .long g_20, .long g_21, .int x_22, .int x_23, .int x_24, .int x_25, .ref q_18, .ref q_19, .int x_26, .int x_27, .int x_28, .int x_29, .ref q_20, .ref q_21, .int x_30, .int x_31, .ref q_22, .ref q_23, .ref q_24, .ref q_25, .int x_32, .int x_33, .int x_34])), (q_1, .inl (k 0, 27101, .inl (fun _ => 0)))] := hD
        refine lv_if_ne (tgt := 56) hx hb dX12_has_46 (by decide) (fun c14 => absurd (by decide) c14) (fun _ => ?_)
        refine lv_aload_n hx hb dX12_has_49 rfl (lv_at hl 0 rfl) ?_
        refine lv_bipush (v := (-2)) hx hb dX12_has_50 (by decide) ?_
        refine z_bi (wr := [(q_1, .inl (k 0, 27101, .inl (fun _ => 0)))]) (z_runV (C := RX12) (As := [.int (-2)]) (rest := []) C0 (c_X12_told_3 l D k q_0 q_1 q_2 q_3 q_4 q_5 q_6 q_7 q_8 q_9 q_10 q_11 q_12 q_13 q_14 q_15 q_16 q_17 q_18 q_19 q_20 q_21 q_22 q_23 q_24 q_25 0 x_5 x_6 x_7 x_8 x_9 x_10 g_11 x_12 x_13 x_14 x_15 x_16 x_17 x_18 x_19 g_20 g_21 x_22 x_23 x_24 x_25 x_26 x_27 x_28 x_29 x_30 x_31 x_32 x_33 x_34 _) okV_X12_told kM_X12_106 rfl (z_pV (q0 := 0) hK hN hP hD [0] rfl rfl rfl rfl rfl) rfl hl.1 rfl (Nat.le_of_ble_eq_true rfl) dX12_has_52 rfl) hP hD hS hA [0] [1] rfl rfl rfl rfl (fun r15 u15 H locs hw15 hP hD hS => ?_)
        obtain ⟨i15, a15⟩ := u15
        dsimp only at hw15
        obtain ⟨rfl, rfl⟩ := hw15
        have hP : va_P D vwCl [(q_1, .inl (k 0, 27101, .inl (fun _ => 0))), (q_0, .inr (12, [.int 0, .int (-2), .ref q_1, .ref q_2, .ref q_3, .int x_6, .ref q_4, .ref q_5, .ref q_6, .ref q_7, .ref q_8, .int x_7, .int x_8, .int x_9, .int x_10, .long g_11, .int x_12, .int x_13, .int x_14, .ref q_9, .int x_15, .ref q_10, .ref q_11, .int x_16, .ref q_12, .ref q_13, .int x_17, .int x_18, .ref q_14, .ref q_15, .ref q_16, .ref q_17, .int x_19, .long g_20, .long g_21, .int x_22, .int x_23, .int x_24, .int x_25, .ref q_18, .ref q_19, .int x_26, .int x_27, .int x_28, .int x_29, .ref q_20, .ref q_21, .int x_30, .int x_31, .ref q_22, .ref q_23, .ref q_24, .ref q_25, .int x_32, .int x_33, .int x_34]))] H := hP
        have hD : va_D A [(q_1, .inl (k 0, 27101, .inl (fun _ => 0))), (q_0, .inr (12, [.int 0, .int (-2), .ref q_1, .ref q_2, .ref q_3, .int x_6, .ref q_4, .ref q_5, .ref q_6, .ref q_7, .ref q_8, .int x_7, .int x_8, .int x_9, .int x_10, .long g_11, .int x_12, .int x_13, .int x_14, .ref q_9, .int x_15, .ref q_10, .ref q_11, .int x_16, .ref q_12, .ref q_13, .int x_17, .int x_18, .ref q_14, .ref q_15, .ref q_16, .ref q_17, .int x_19, .long g_20, .long g_21, .int x_22, .int x_23, .int x_24, .int x_25, .ref q_18, .ref q_19, .int x_26, .int x_27, .int x_28, .int x_29, .ref q_20, .ref q_21, .int x_30, .int x_31, .ref q_22, .ref q_23, .ref q_24, .ref q_25, .int x_32, .int x_33, .int x_34]))] := hD
        exact z_iret C0 hr hlk rfl hK hP hD hS (1, fun _ => 0) (Or.inr (⟨rfl, rfl, ⟨c1, c5, c9⟩⟩)) [] rfl rfl rfl dX12_has_55

set_option maxHeartbeats 4000000 in
set_option maxRecDepth 100000 in
theorem c_X11_mark_1 (l : Launch) (D : va_G) (k : Nat → ClassId) (q_0 : Nat) (q_1 : Nat) (q_2 : Nat) (q_3 : Nat) (q_4 : Nat) (q_5 : Nat) (q_6 : Nat) (q_7 : Nat) (q_8 : Nat) (q_9 : Nat) (q_10 : Nat) (q_11 : Nat) (q_12 : Nat) (q_13 : Nat) (q_14 : Nat) (q_15 : Nat) (q_16 : Nat) (q_17 : Nat) (q_18 : Nat) (q_19 : Nat) (q_20 : Nat) (q_21 : Nat) (q_22 : Nat) (q_23 : Nat) (x_0 : Int32) (x_1 : Int32) (x_2 : Int32) (x_3 : Int32) (x_4 : Int32) (x_5 : Int32) (x_6 : Int32) (x_7 : Int32) (x_8 : Int32) : zMi l yX11_mark cX11_mark 8 (some .int) ({ frames := 1, cells := 0, slots := 0, locals := 22 }) D k [.ref q_0, .int x_0, .int x_1, .int x_2, .int x_3, .int x_4, .int x_5] [(q_0, .inr (11, [.ref q_1, .ref q_3, .ref q_4, .ref q_5, .ref q_6, .int x_6])), (q_1, .inr (3, [.ref q_2, .ref q_7, .ref q_8, .ref q_9, .ref q_10, .ref q_11])), (q_2, .inr (6, [.int 0, .ref q_12, .ref q_13, .ref q_14, .ref q_15, .ref q_16, .int x_7, .ref q_17, .int x_8, .ref q_18, .ref q_19, .ref q_20, .ref q_21, .ref q_22, .ref q_23]))] (fun r u => (u.1 = 0 ∧ r = (-1) ∧ ((((x_2 < 0) ∨ (¬ x_2 < 0 ∧ ¬ x_2 < 800))) ∨ (((¬ x_2 < 0 ∧ x_2 < 800)) ∧ ((x_3 < 0) ∨ (¬ x_3 < 0 ∧ ¬ x_3 ≤ 25))) ∨ (((¬ x_2 < 0 ∧ x_2 < 800)) ∧ ((¬ x_3 < 0 ∧ x_3 ≤ 25)) ∧ ((x_4 < 0) ∨ (¬ x_4 < 0 ∧ ¬ x_4 ≤ 300))) ∨ (((¬ x_2 < 0 ∧ x_2 < 800)) ∧ ((¬ x_3 < 0 ∧ x_3 ≤ 25)) ∧ ((¬ x_4 < 0 ∧ x_4 ≤ 300)) ∧ ((x_5 < 0) ∨ (¬ x_5 < 0 ∧ ¬ x_5 < 400))))) ∨ (u.1 = 1 ∧ r = (-2) ∧ ((((¬ x_2 < 0 ∧ x_2 < 800)) ∧ ((¬ x_3 < 0 ∧ x_3 ≤ 25)) ∧ ((¬ x_4 < 0 ∧ x_4 ≤ 300)) ∧ ((¬ x_5 < 0 ∧ x_5 < 400)))))) (fun u => []) := by
  refine zMi_of (own := RX11) (by decide +kernel) rfl (Nat.le_of_ble_eq_true rfl) ?_
  intro p e s m args below meth c A ls C0 hr hlk hin hP hD hS hA hK hN hl
  have hx := C0.1
  have hb := C0.2.1
  have hml := C0.2.2.1
  have hown := C0.2.2.2.1
  have hts := C0.2.2.2.2
  have hl : lv_has ls 8 [(0, .ref q_0), (1, .int x_0), (2, .int x_1), (3, .int x_2), (4, .int x_3), (5, .int x_4), (6, .int x_5)] := hl
  have hP : va_P D vwCl [(q_0, .inr (11, [.ref q_1, .ref q_3, .ref q_4, .ref q_5, .ref q_6, .int x_6])), (q_1, .inr (3, [.ref q_2, .ref q_7, .ref q_8, .ref q_9, .ref q_10, .ref q_11])), (q_2, .inr (6, [.int 0, .ref q_12, .ref q_13, .ref q_14, .ref q_15, .ref q_16, .int x_7, .ref q_17, .int x_8, .ref q_18, .ref q_19, .ref q_20, .ref q_21, .ref q_22, .ref q_23]))] s.heap := hP
  refine lv_iload_n hx hb dX11_mark_0 rfl (lv_at hl 3 rfl) ?_
  refine z_bi0 (z_runS (As := [.int x_2]) (rest := []) C0 (c_X11_isNoHalf_1 l D k x_2 _) okS_X11_isNoHalf kM_X11_118 rfl (z_p0 hK hN) rfl hl.1 rfl (Nat.le_of_ble_eq_true rfl) dX11_mark_1 rfl) hP hS hA (fun r1 u1 H locs hw1 hP hS => ?_)
  obtain ⟨i1, a1⟩ := u1
  dsimp only at hw1
  rcases hw1 with ⟨rfl, rfl, c1⟩ | ⟨rfl, rfl, c1⟩
  · refine lv_if_ne (tgt := 38) hx hb dX11_mark_4 (by decide) (fun _ => ?_) (fun c2 => absurd c2 (by decide))
    refine lv_aload_n hx hb dX11_mark_38 rfl (lv_at hl 0 rfl) ?_
    refine lv_iconst (v := (-1)) hx hb dX11_mark_39 (by decide) ?_
    refine z_bi (wr := [(q_1, .inr (3, [.ref q_2, .ref q_7, .ref q_8, .ref q_9, .ref q_10, .ref q_11])), (q_2, .inr (6, [.int 0, .ref q_12, .ref q_13, .ref q_14, .ref q_15, .ref q_16, .int x_7, .ref q_17, .int x_8, .ref q_18, .ref q_19, .ref q_20, .ref q_21, .ref q_22, .ref q_23]))]) (z_runV (C := RX11) (As := [.int (-1)]) (rest := []) C0 (c_X11_answer_1 l D k q_0 q_1 q_3 q_4 q_5 q_6 x_6 _) okV_X11_answer kM_X11_55 rfl (z_pV (q0 := 0) hK hN hP hD [0] rfl rfl rfl rfl rfl) rfl hl.1 rfl (Nat.le_of_ble_eq_true rfl) dX11_mark_40 rfl) hP hD hS hA [0] [1, 2] rfl rfl rfl rfl (fun r3 u3 H locs hw3 hP hD hS => ?_)
    obtain ⟨i3, a3⟩ := u3
    dsimp only at hw3
    obtain ⟨rfl, rfl⟩ := hw3
    have hP : va_P D vwCl [(q_1, .inr (3, [.ref q_2, .ref q_7, .ref q_8, .ref q_9, .ref q_10, .ref q_11])), (q_2, .inr (6, [.int 0, .ref q_12, .ref q_13, .ref q_14, .ref q_15, .ref q_16, .int x_7, .ref q_17, .int x_8, .ref q_18, .ref q_19, .ref q_20, .ref q_21, .ref q_22, .ref q_23])), (q_0, .inr (11, [.ref q_1, .ref q_3, .ref q_4, .ref q_5, .ref q_6, .int (-1)]))] H := hP
    have hD : va_D A [(q_1, .inr (3, [.ref q_2, .ref q_7, .ref q_8, .ref q_9, .ref q_10, .ref q_11])), (q_2, .inr (6, [.int 0, .ref q_12, .ref q_13, .ref q_14, .ref q_15, .ref q_16, .int x_7, .ref q_17, .int x_8, .ref q_18, .ref q_19, .ref q_20, .ref q_21, .ref q_22, .ref q_23])), (q_0, .inr (11, [.ref q_1, .ref q_3, .ref q_4, .ref q_5, .ref q_6, .int (-1)]))] := hD
    exact z_iret C0 hr hlk rfl hK hP hD hS (0, fun _ => 0) (Or.inl ⟨rfl, rfl, (Or.inl c1)⟩) [] rfl rfl rfl dX11_mark_43
  · refine lv_if_ne (tgt := 38) hx hb dX11_mark_4 (by decide) (fun c4 => absurd (by decide) c4) (fun _ => ?_)
    refine lv_iload hx hb dX11_mark_7 (lv_at hl 4 rfl) ?_
    refine lv_iconst (v := 0) hx hb dX11_mark_9 (by decide) ?_
    refine lv_bipush (v := 25) hx hb dX11_mark_10 (by decide) ?_
    refine z_bi0 (z_runS (As := [.int x_3, .int 0, .int 25]) (rest := []) C0 (c_X11_isOutside_1 l D k x_3 0 25 _) okS_X11_isOutside kM_X11_47 rfl (z_p0 hK hN) rfl hl.1 rfl (Nat.le_of_ble_eq_true rfl) dX11_mark_12 rfl) hP hS hA (fun r5 u5 H locs hw5 hP hS => ?_)
    obtain ⟨i5, a5⟩ := u5
    dsimp only at hw5
    rcases hw5 with ⟨rfl, rfl, c5⟩ | ⟨rfl, rfl, c5⟩
    · refine lv_if_ne (tgt := 38) hx hb dX11_mark_15 (by decide) (fun _ => ?_) (fun c6 => absurd c6 (by decide))
      refine lv_aload_n hx hb dX11_mark_38 rfl (lv_at hl 0 rfl) ?_
      refine lv_iconst (v := (-1)) hx hb dX11_mark_39 (by decide) ?_
      refine z_bi (wr := [(q_1, .inr (3, [.ref q_2, .ref q_7, .ref q_8, .ref q_9, .ref q_10, .ref q_11])), (q_2, .inr (6, [.int 0, .ref q_12, .ref q_13, .ref q_14, .ref q_15, .ref q_16, .int x_7, .ref q_17, .int x_8, .ref q_18, .ref q_19, .ref q_20, .ref q_21, .ref q_22, .ref q_23]))]) (z_runV (C := RX11) (As := [.int (-1)]) (rest := []) C0 (c_X11_answer_1 l D k q_0 q_1 q_3 q_4 q_5 q_6 x_6 _) okV_X11_answer kM_X11_55 rfl (z_pV (q0 := 0) hK hN hP hD [0] rfl rfl rfl rfl rfl) rfl hl.1 rfl (Nat.le_of_ble_eq_true rfl) dX11_mark_40 rfl) hP hD hS hA [0] [1, 2] rfl rfl rfl rfl (fun r7 u7 H locs hw7 hP hD hS => ?_)
      obtain ⟨i7, a7⟩ := u7
      dsimp only at hw7
      obtain ⟨rfl, rfl⟩ := hw7
      have hP : va_P D vwCl [(q_1, .inr (3, [.ref q_2, .ref q_7, .ref q_8, .ref q_9, .ref q_10, .ref q_11])), (q_2, .inr (6, [.int 0, .ref q_12, .ref q_13, .ref q_14, .ref q_15, .ref q_16, .int x_7, .ref q_17, .int x_8, .ref q_18, .ref q_19, .ref q_20, .ref q_21, .ref q_22, .ref q_23])), (q_0, .inr (11, [.ref q_1, .ref q_3, .ref q_4, .ref q_5, .ref q_6, .int (-1)]))] H := hP
      have hD : va_D A [(q_1, .inr (3, [.ref q_2, .ref q_7, .ref q_8, .ref q_9, .ref q_10, .ref q_11])), (q_2, .inr (6, [.int 0, .ref q_12, .ref q_13, .ref q_14, .ref q_15, .ref q_16, .int x_7, .ref q_17, .int x_8, .ref q_18, .ref q_19, .ref q_20, .ref q_21, .ref q_22, .ref q_23])), (q_0, .inr (11, [.ref q_1, .ref q_3, .ref q_4, .ref q_5, .ref q_6, .int (-1)]))] := hD
      exact z_iret C0 hr hlk rfl hK hP hD hS (0, fun _ => 0) (Or.inl ⟨rfl, rfl, (Or.inr (Or.inl (⟨c1, c5⟩)))⟩) [] rfl rfl rfl dX11_mark_43
    · refine lv_if_ne (tgt := 38) hx hb dX11_mark_15 (by decide) (fun c8 => absurd (by decide) c8) (fun _ => ?_)
      refine lv_iload hx hb dX11_mark_18 (lv_at hl 5 rfl) ?_
      refine lv_iconst (v := 0) hx hb dX11_mark_20 (by decide) ?_
      refine lv_sipush (v := 300) hx hb dX11_mark_21 (by decide) ?_
      refine z_bi0 (z_runS (As := [.int x_4, .int 0, .int 300]) (rest := []) C0 (c_X11_isOutside_1 l D k x_4 0 300 _) okS_X11_isOutside kM_X11_47 rfl (z_p0 hK hN) rfl hl.1 rfl (Nat.le_of_ble_eq_true rfl) dX11_mark_24 rfl) hP hS hA (fun r9 u9 H locs hw9 hP hS => ?_)
      obtain ⟨i9, a9⟩ := u9
      dsimp only at hw9
      rcases hw9 with ⟨rfl, rfl, c9⟩ | ⟨rfl, rfl, c9⟩
      · refine lv_if_ne (tgt := 38) hx hb dX11_mark_27 (by decide) (fun _ => ?_) (fun c10 => absurd c10 (by decide))
        refine lv_aload_n hx hb dX11_mark_38 rfl (lv_at hl 0 rfl) ?_
        refine lv_iconst (v := (-1)) hx hb dX11_mark_39 (by decide) ?_
        refine z_bi (wr := [(q_1, .inr (3, [.ref q_2, .ref q_7, .ref q_8, .ref q_9, .ref q_10, .ref q_11])), (q_2, .inr (6, [.int 0, .ref q_12, .ref q_13, .ref q_14, .ref q_15, .ref q_16, .int x_7, .ref q_17, .int x_8, .ref q_18, .ref q_19, .ref q_20, .ref q_21, .ref q_22, .ref q_23]))]) (z_runV (C := RX11) (As := [.int (-1)]) (rest := []) C0 (c_X11_answer_1 l D k q_0 q_1 q_3 q_4 q_5 q_6 x_6 _) okV_X11_answer kM_X11_55 rfl (z_pV (q0 := 0) hK hN hP hD [0] rfl rfl rfl rfl rfl) rfl hl.1 rfl (Nat.le_of_ble_eq_true rfl) dX11_mark_40 rfl) hP hD hS hA [0] [1, 2] rfl rfl rfl rfl (fun r11 u11 H locs hw11 hP hD hS => ?_)
        obtain ⟨i11, a11⟩ := u11
        dsimp only at hw11
        obtain ⟨rfl, rfl⟩ := hw11
        have hP : va_P D vwCl [(q_1, .inr (3, [.ref q_2, .ref q_7, .ref q_8, .ref q_9, .ref q_10, .ref q_11])), (q_2, .inr (6, [.int 0, .ref q_12, .ref q_13, .ref q_14, .ref q_15, .ref q_16, .int x_7, .ref q_17, .int x_8, .ref q_18, .ref q_19, .ref q_20, .ref q_21, .ref q_22, .ref q_23])), (q_0, .inr (11, [.ref q_1, .ref q_3, .ref q_4, .ref q_5, .ref q_6, .int (-1)]))] H := hP
        have hD : va_D A [(q_1, .inr (3, [.ref q_2, .ref q_7, .ref q_8, .ref q_9, .ref q_10, .ref q_11])), (q_2, .inr (6, [.int 0, .ref q_12, .ref q_13, .ref q_14, .ref q_15, .ref q_16, .int x_7, .ref q_17, .int x_8, .ref q_18, .ref q_19, .ref q_20, .ref q_21, .ref q_22, .ref q_23])), (q_0, .inr (11, [.ref q_1, .ref q_3, .ref q_4, .ref q_5, .ref q_6, .int (-1)]))] := hD
        exact z_iret C0 hr hlk rfl hK hP hD hS (0, fun _ => 0) (Or.inl ⟨rfl, rfl, (Or.inr (Or.inr (Or.inl (⟨c1, c5, c9⟩))))⟩) [] rfl rfl rfl dX11_mark_43
      · refine lv_if_ne (tgt := 38) hx hb dX11_mark_27 (by decide) (fun c12 => absurd (by decide) c12) (fun _ => ?_)
        refine lv_iload hx hb dX11_mark_30 (lv_at hl 6 rfl) ?_
        refine z_bi0 (z_runS (As := [.int x_5]) (rest := []) C0 (c_X11_isNoDay_1 l D k x_5 _) okS_X11_isNoDay kM_X11_72 rfl (z_p0 hK hN) rfl hl.1 rfl (Nat.le_of_ble_eq_true rfl) dX11_mark_32 rfl) hP hS hA (fun r13 u13 H locs hw13 hP hS => ?_)
        obtain ⟨i13, a13⟩ := u13
        dsimp only at hw13
        rcases hw13 with ⟨rfl, rfl, c13⟩ | ⟨rfl, rfl, c13⟩
        · refine lv_if_eq (tgt := 44) hx hb dX11_mark_35 (by decide) (fun c14 => absurd c14 (by decide)) (fun _ => ?_)
          refine lv_aload_n hx hb dX11_mark_38 rfl (lv_at hl 0 rfl) ?_
          refine lv_iconst (v := (-1)) hx hb dX11_mark_39 (by decide) ?_
          refine z_bi (wr := [(q_1, .inr (3, [.ref q_2, .ref q_7, .ref q_8, .ref q_9, .ref q_10, .ref q_11])), (q_2, .inr (6, [.int 0, .ref q_12, .ref q_13, .ref q_14, .ref q_15, .ref q_16, .int x_7, .ref q_17, .int x_8, .ref q_18, .ref q_19, .ref q_20, .ref q_21, .ref q_22, .ref q_23]))]) (z_runV (C := RX11) (As := [.int (-1)]) (rest := []) C0 (c_X11_answer_1 l D k q_0 q_1 q_3 q_4 q_5 q_6 x_6 _) okV_X11_answer kM_X11_55 rfl (z_pV (q0 := 0) hK hN hP hD [0] rfl rfl rfl rfl rfl) rfl hl.1 rfl (Nat.le_of_ble_eq_true rfl) dX11_mark_40 rfl) hP hD hS hA [0] [1, 2] rfl rfl rfl rfl (fun r15 u15 H locs hw15 hP hD hS => ?_)
          obtain ⟨i15, a15⟩ := u15
          dsimp only at hw15
          obtain ⟨rfl, rfl⟩ := hw15
          have hP : va_P D vwCl [(q_1, .inr (3, [.ref q_2, .ref q_7, .ref q_8, .ref q_9, .ref q_10, .ref q_11])), (q_2, .inr (6, [.int 0, .ref q_12, .ref q_13, .ref q_14, .ref q_15, .ref q_16, .int x_7, .ref q_17, .int x_8, .ref q_18, .ref q_19, .ref q_20, .ref q_21, .ref q_22, .ref q_23])), (q_0, .inr (11, [.ref q_1, .ref q_3, .ref q_4, .ref q_5, .ref q_6, .int (-1)]))] H := hP
          have hD : va_D A [(q_1, .inr (3, [.ref q_2, .ref q_7, .ref q_8, .ref q_9, .ref q_10, .ref q_11])), (q_2, .inr (6, [.int 0, .ref q_12, .ref q_13, .ref q_14, .ref q_15, .ref q_16, .int x_7, .ref q_17, .int x_8, .ref q_18, .ref q_19, .ref q_20, .ref q_21, .ref q_22, .ref q_23])), (q_0, .inr (11, [.ref q_1, .ref q_3, .ref q_4, .ref q_5, .ref q_6, .int (-1)]))] := hD
          exact z_iret C0 hr hlk rfl hK hP hD hS (0, fun _ => 0) (Or.inl ⟨rfl, rfl, (Or.inr (Or.inr (Or.inr (⟨c1, c5, c9, c13⟩))))⟩) [] rfl rfl rfl dX11_mark_43
        · refine lv_if_eq (tgt := 44) hx hb dX11_mark_35 (by decide) (fun _ => ?_) (fun c16 => absurd (by decide) c16)
          refine lv_aload_n hx hb dX11_mark_44 rfl (lv_at hl 0 rfl) ?_
          refine va_get (D := D) (ci := 11) (v := .ref q_1) (C := RX11) (T := TX11) (N := 6) hx hb hts inX11 hown hK hP 0 rfl rfl 0 (by decide) (hts _ kF_X11_12) (fun _ h9 => h9) rfl dX11_mark_45 ?_
          refine va_get (D := D) (ci := 3) (v := .ref q_2) (C := RX3) (T := TX3) (N := 6) hx hb hts inX3 hown hK hP 1 rfl rfl 0 (by decide) (hts _ kF_X11_43) (fun _ h9 => h9) rfl dX11_mark_48 ?_
          refine lv_iload_n hx hb dX11_mark_51 rfl (lv_at hl 2 rfl) ?_
          refine z_bi (wr := [(q_0, .inr (11, [.ref q_1, .ref q_3, .ref q_4, .ref q_5, .ref q_6, .int x_6])), (q_1, .inr (3, [.ref q_2, .ref q_7, .ref q_8, .ref q_9, .ref q_10, .ref q_11]))]) (z_runV (C := RX6) (As := [.int x_1]) (rest := []) C0 (c_X6_isNoChild_1 l D k q_2 q_12 q_13 q_14 q_15 q_16 q_17 q_18 q_19 q_20 q_21 q_22 q_23 x_1 x_7 x_8 _) okV_X6_isNoChild kM_X11_90 rfl (z_pV (q0 := 2) hK hN hP hD [2] rfl rfl rfl rfl rfl) rfl hl.1 rfl (Nat.le_of_ble_eq_true rfl) dX11_mark_52 rfl) hP hD hS hA [2] [0, 1] rfl rfl rfl rfl (fun r17 u17 H locs hw17 hP hD hS => ?_)
          obtain ⟨i17, a17⟩ := u17
          dsimp only at hw17
          obtain ⟨rfl, rfl⟩ := hw17
          have hP : va_P D vwCl [(q_0, .inr (11, [.ref q_1, .ref q_3, .ref q_4, .ref q_5, .ref q_6, .int x_6])), (q_1, .inr (3, [.ref q_2, .ref q_7, .ref q_8, .ref q_9, .ref q_10, .ref q_11])), (q_2, .inr (6, [.int 0, .ref q_12, .ref q_13, .ref q_14, .ref q_15, .ref q_16, .int x_7, .ref q_17, .int x_8, .ref q_18, .ref q_19, .ref q_20, .ref q_21, .ref q_22, .ref q_23]))] H := hP
          have hD : va_D A [(q_0, .inr (11, [.ref q_1, .ref q_3, .ref q_4, .ref q_5, .ref q_6, .int x_6])), (q_1, .inr (3, [.ref q_2, .ref q_7, .ref q_8, .ref q_9, .ref q_10, .ref q_11])), (q_2, .inr (6, [.int 0, .ref q_12, .ref q_13, .ref q_14, .ref q_15, .ref q_16, .int x_7, .ref q_17, .int x_8, .ref q_18, .ref q_19, .ref q_20, .ref q_21, .ref q_22, .ref q_23]))] := hD
          refine lv_if_ne (tgt := 72) hx hb dX11_mark_55 (by decide) (fun _ => ?_) (fun c18 => absurd c18 (by decide))
          refine lv_aload_n hx hb dX11_mark_72 rfl (lv_at hl 0 rfl) ?_
          refine lv_bipush (v := (-2)) hx hb dX11_mark_73 (by decide) ?_
          refine z_bi (wr := [(q_1, .inr (3, [.ref q_2, .ref q_7, .ref q_8, .ref q_9, .ref q_10, .ref q_11])), (q_2, .inr (6, [.int 0, .ref q_12, .ref q_13, .ref q_14, .ref q_15, .ref q_16, .int x_7, .ref q_17, .int x_8, .ref q_18, .ref q_19, .ref q_20, .ref q_21, .ref q_22, .ref q_23]))]) (z_runV (C := RX11) (As := [.int (-2)]) (rest := []) C0 (c_X11_answer_3 l D k q_0 q_1 q_3 q_4 q_5 q_6 x_6 _) okV_X11_answer kM_X11_55 rfl (z_pV (q0 := 0) hK hN hP hD [0] rfl rfl rfl rfl rfl) rfl hl.1 rfl (Nat.le_of_ble_eq_true rfl) dX11_mark_75 rfl) hP hD hS hA [0] [1, 2] rfl rfl rfl rfl (fun r19 u19 H locs hw19 hP hD hS => ?_)
          obtain ⟨i19, a19⟩ := u19
          dsimp only at hw19
          obtain ⟨rfl, rfl⟩ := hw19
          have hP : va_P D vwCl [(q_1, .inr (3, [.ref q_2, .ref q_7, .ref q_8, .ref q_9, .ref q_10, .ref q_11])), (q_2, .inr (6, [.int 0, .ref q_12, .ref q_13, .ref q_14, .ref q_15, .ref q_16, .int x_7, .ref q_17, .int x_8, .ref q_18, .ref q_19, .ref q_20, .ref q_21, .ref q_22, .ref q_23])), (q_0, .inr (11, [.ref q_1, .ref q_3, .ref q_4, .ref q_5, .ref q_6, .int (-2)]))] H := hP
          have hD : va_D A [(q_1, .inr (3, [.ref q_2, .ref q_7, .ref q_8, .ref q_9, .ref q_10, .ref q_11])), (q_2, .inr (6, [.int 0, .ref q_12, .ref q_13, .ref q_14, .ref q_15, .ref q_16, .int x_7, .ref q_17, .int x_8, .ref q_18, .ref q_19, .ref q_20, .ref q_21, .ref q_22, .ref q_23])), (q_0, .inr (11, [.ref q_1, .ref q_3, .ref q_4, .ref q_5, .ref q_6, .int (-2)]))] := hD
          exact z_iret C0 hr hlk rfl hK hP hD hS (1, fun _ => 0) (Or.inr (⟨rfl, rfl, ⟨c1, c5, c9, c13⟩⟩)) [] rfl rfl rfl dX11_mark_78

set_option maxHeartbeats 4000000 in
set_option maxRecDepth 100000 in
theorem c_X12_mark_1 (l : Launch) (D : va_G) (k : Nat → ClassId) (q_0 : Nat) (q_1 : Nat) (q_2 : Nat) (q_3 : Nat) (q_4 : Nat) (q_5 : Nat) (q_6 : Nat) (q_7 : Nat) (q_8 : Nat) (q_9 : Nat) (q_10 : Nat) (q_11 : Nat) (q_12 : Nat) (q_13 : Nat) (q_14 : Nat) (q_15 : Nat) (q_16 : Nat) (q_17 : Nat) (q_18 : Nat) (q_19 : Nat) (q_20 : Nat) (q_21 : Nat) (q_22 : Nat) (q_23 : Nat) (q_24 : Nat) (q_25 : Nat) (x_0 : Int32) (x_1 : Int32) (x_2 : Int32) (x_3 : Int32) (x_4 : Int32) (x_5 : Int32) (x_6 : Int32) (x_7 : Int32) (x_8 : Int32) (x_9 : Int32) (x_10 : Int32) (x_11 : Int32) (x_12 : Int32) (g_13 : Int64) (x_14 : Int32) (x_15 : Int32) (x_16 : Int32) (x_17 : Int32) (x_18 : Int32) (x_19 : Int32) (x_20 : Int32) (x_21 : Int32) (g_22 : Int64) (g_23 : Int64) (x_24 : Int32) (x_25 : Int32) (x_26 : Int32) (x_27 : Int32) (x_28 : Int32) (x_29 : Int32) (x_30 : Int32) (x_31 : Int32) (x_32 : Int32) (x_33 : Int32) (x_34 : Int32) (x_35 : Int32) (x_36 : Int32) : zMi l yX12_mark cX12_mark 9 (some .int) ({ frames := 2, cells := 0, slots := 0, locals := 46 }) D k [.ref q_0, .int x_0, .int x_1, .int x_2, .int x_3, .int x_4, .int x_5] [(q_0, .inr (12, [.int x_6, .int x_7, .ref q_1, .ref q_2, .ref q_3, .int x_8, .ref q_4, .ref q_5, .ref q_6, .ref q_7, .ref q_8, .int x_9, .int x_10, .int x_11, .int x_12, .long g_13, .int x_14, .int x_15, .int x_16, .ref q_9, .int x_17, .ref q_10, .ref q_11, .int x_18, .ref q_12, .ref q_13, .int x_19, .int x_20, .ref q_14, .ref q_15, .ref q_16, .ref q_17, .int x_21, .long g_22, .long g_23, .int x_24, .int x_25, .int x_26, .int x_27, .ref q_18, .ref q_19, .int x_28, .int x_29, .int x_30, .int x_31, .ref q_20, .ref q_21, .int x_32, .int x_33, .ref q_22, .ref q_23, .ref q_24, .ref q_25, .int x_34, .int x_35, .int x_36])), (q_1, .inl (k 0, 27101, .inl (fun _ => 0)))] (fun r u => (u.1 = 0 ∧ r = (-1) ∧ (((((Int32.toInt64 x_2) < 0) ∨ (¬ (Int32.toInt64 x_2) < 0 ∧ (799 : Int64) < (Int32.toInt64 x_2)))) ∨ (((¬ (Int32.toInt64 x_2) < 0 ∧ ¬ (799 : Int64) < (Int32.toInt64 x_2))) ∧ (((Int32.toInt64 x_3) < 0) ∨ (¬ (Int32.toInt64 x_3) < 0 ∧ (25 : Int64) < (Int32.toInt64 x_3)))) ∨ (((¬ (Int32.toInt64 x_2) < 0 ∧ ¬ (799 : Int64) < (Int32.toInt64 x_2))) ∧ ((¬ (Int32.toInt64 x_3) < 0 ∧ ¬ (25 : Int64) < (Int32.toInt64 x_3))) ∧ (((Int32.toInt64 x_4) < 0) ∨ (¬ (Int32.toInt64 x_4) < 0 ∧ (300 : Int64) < (Int32.toInt64 x_4)))) ∨ (((¬ (Int32.toInt64 x_2) < 0 ∧ ¬ (799 : Int64) < (Int32.toInt64 x_2))) ∧ ((¬ (Int32.toInt64 x_3) < 0 ∧ ¬ (25 : Int64) < (Int32.toInt64 x_3))) ∧ ((¬ (Int32.toInt64 x_4) < 0 ∧ ¬ (300 : Int64) < (Int32.toInt64 x_4))) ∧ (((Int32.toInt64 x_5) < 0) ∨ (¬ (Int32.toInt64 x_5) < 0 ∧ (399 : Int64) < (Int32.toInt64 x_5)))))) ∨ (u.1 = 1 ∧ r = (-2) ∧ ((((¬ (Int32.toInt64 x_2) < 0 ∧ ¬ (799 : Int64) < (Int32.toInt64 x_2))) ∧ ((¬ (Int32.toInt64 x_3) < 0 ∧ ¬ (25 : Int64) < (Int32.toInt64 x_3))) ∧ ((¬ (Int32.toInt64 x_4) < 0 ∧ ¬ (300 : Int64) < (Int32.toInt64 x_4))) ∧ ((¬ (Int32.toInt64 x_5) < 0 ∧ ¬ (399 : Int64) < (Int32.toInt64 x_5))))))) (fun u => []) := by
  refine zMi_of (own := RX12) (by decide +kernel) rfl (Nat.le_of_ble_eq_true rfl) ?_
  intro p e s m args below meth c A ls C0 hr hlk hin hP hD hS hA hK hN hl
  have hx := C0.1
  have hb := C0.2.1
  have hml := C0.2.2.1
  have hown := C0.2.2.2.1
  have hts := C0.2.2.2.2
  have hl : lv_has ls 9 [(0, .ref q_0), (1, .int x_0), (2, .int x_1), (3, .int x_2), (4, .int x_3), (5, .int x_4), (6, .int x_5)] := hl
  have hP : va_P D vwCl [(q_0, .inr (12, [.int x_6, .int x_7, .ref q_1, .ref q_2, .ref q_3, .int x_8, .ref q_4, .ref q_5, .ref q_6, .ref q_7, .ref q_8, .int x_9, .int x_10, .int x_11, .int x_12, .long g_13, .int x_14, .int x_15, .int x_16, .ref q_9, .int x_17, .ref q_10, .ref q_11, .int x_18, .ref q_12, .ref q_13, .int x_19, .int x_20, .ref q_14, .ref q_15, .ref q_16, .ref q_17, .int x_21, .long g_22, .long g_23, .int x_24, .int x_25, .int x_26, .int x_27, .ref q_18, .ref q_19, .int x_28, .int x_29, .int x_30, .int x_31, .ref q_20, .ref q_21, .int x_32, .int x_33, .ref q_22, .ref q_23, .ref q_24, .ref q_25, .int x_34, .int x_35, .int x_36])), (q_1, .inl (k 0, 27101, .inl (fun _ => 0)))] s.heap := hP
  refine lv_aload_n hx hb dX12_mark_0 rfl (lv_at hl 0 rfl) ?_
  refine lv_iconst (v := 0) hx hb dX12_mark_1 (by decide) ?_
  refine va_put (D := D) (ci := 12) (v := .int 0) (ty := .int) (C := RX12) (T := TX12) (N := 56) hx hb hts inX12 tyX12 tyX12_ok nmX12 hown hK hP hD hS 0 rfl rfl 0 (by decide) (hts _ kF_X12_92) (fun _ h9 => h9) rfl (by decide +kernel) rfl rfl (Nat.le_of_ble_eq_true rfl) dX12_mark_2 (fun H locs hP hD hS => ?_)
  have hP : va_P D vwCl [(q_0, .inr (12, [.int 0, .int x_7, .ref q_1, .ref q_2, .ref q_3, .int x_8, .ref q_4, .ref q_5, .ref q_6, .ref q_7, .ref q_8, .int x_9, .int x_10, .int x_11, .int x_12, .long g_13, .int x_14, .int x_15, .int x_16, .ref q_9, .int x_17, .ref q_10, .ref q_11, .int x_18, .ref q_12, .ref q_13, .int x_19, .int x_20, .ref q_14, .ref q_15, .ref q_16, .ref q_17, .int x_21, .long g_22, .long g_23, .int x_24, .int x_25, .int x_26, .int x_27, .ref q_18, .ref q_19, .int x_28, .int x_29, .int x_30, .int x_31, .ref q_20, .ref q_21, .int x_32, .int x_33, .ref q_22, .ref q_23, .ref q_24, .ref q_25, .int x_34, .int x_35, .int x_36])), (q_1, .inl (k 0, 27101, .inl (fun _ => 0)))] H := hP
  have hD : va_D A [(q_0, .inr (12, [.int 0, .int x_7, .ref q_1, .ref q_2, .ref q_3, .int x_8, .ref q_4, .ref q_5, .ref q_6, .ref q_7, .ref q_8, .int x_9, .int x_10, .int x_11, .int x_12, .long g_13, .int x_14, .int x_15, .int x_16, .ref q_9, .int x_17, .ref q_10, .ref q_11, .int x_18, .ref q_12, .ref q_13, .int x_19, .int x_20, .ref q_14, .ref q_15, .ref q_16, .ref q_17, .int x_21, .long g_22, .long g_23, .int x_24, .int x_25, .int x_26, .int x_27, .ref q_18, .ref q_19, .int x_28, .int x_29, .int x_30, .int x_31, .ref q_20, .ref q_21, .int x_32, .int x_33, .ref q_22, .ref q_23, .ref q_24, .ref q_25, .int x_34, .int x_35, .int x_36])), (q_1, .inl (k 0, 27101, .inl (fun _ => 0)))] := hD
  refine lv_iload_n hx hb dX12_mark_5 rfl (lv_at hl 3 rfl) ?_
  refine z_bi0 (z_runS (As := [.int x_2]) (rest := []) C0 (c_X12_isHalf_1 l D k x_2 _) okS_X12_isHalf kM_X12_145 rfl (z_p0 hK hN) rfl hl.1 rfl (Nat.le_of_ble_eq_true rfl) dX12_mark_6 rfl) hP hS hA (fun r1 u1 H locs hw1 hP hS => ?_)
  obtain ⟨i1, a1⟩ := u1
  dsimp only at hw1
  rcases hw1 with ⟨rfl, rfl, c1⟩ | ⟨rfl, rfl, c1⟩
  · refine lv_if_eq (tgt := 46) hx hb dX12_mark_9 (by decide) (fun _ => ?_) (fun c2 => absurd (by decide) c2)
    refine lv_aload_n hx hb dX12_mark_46 rfl (lv_at hl 0 rfl) ?_
    refine lv_iconst (v := (-1)) hx hb dX12_mark_47 (by decide) ?_
    refine z_bi (wr := [(q_1, .inl (k 0, 27101, .inl (fun _ => 0)))]) (z_runV (C := RX12) (As := [.int (-1)]) (rest := []) C0 (c_X12_told_1 l D k q_0 q_1 q_2 q_3 q_4 q_5 q_6 q_7 q_8 q_9 q_10 q_11 q_12 q_13 q_14 q_15 q_16 q_17 q_18 q_19 q_20 q_21 q_22 q_23 q_24 q_25 0 x_7 x_8 x_9 x_10 x_11 x_12 g_13 x_14 x_15 x_16 x_17 x_18 x_19 x_20 x_21 g_22 g_23 x_24 x_25 x_26 x_27 x_28 x_29 x_30 x_31 x_32 x_33 x_34 x_35 x_36 _) okV_X12_told kM_X12_106 rfl (z_pV (q0 := 0) hK hN hP hD [0] rfl rfl rfl rfl rfl) rfl hl.1 rfl (Nat.le_of_ble_eq_true rfl) dX12_mark_48 rfl) hP hD hS hA [0] [1] rfl rfl rfl rfl (fun r3 u3 H locs hw3 hP hD hS => ?_)
    obtain ⟨i3, a3⟩ := u3
    dsimp only at hw3
    obtain ⟨rfl, rfl⟩ := hw3
    have hP : va_P D vwCl [(q_1, .inl (k 0, 27101, .inl (fun _ => 0))), (q_0, .inr (12, [.int 0, .int (-1), .ref q_1, .ref q_2, .ref q_3, .int x_8, .ref q_4, .ref q_5, .ref q_6, .ref q_7, .ref q_8, .int x_9, .int x_10, .int x_11, .int x_12, .long g_13, .int x_14, .int x_15, .int x_16, .ref q_9, .int x_17, .ref q_10, .ref q_11, .int x_18, .ref q_12, .ref q_13, .int x_19, .int x_20, .ref q_14, .ref q_15, .ref q_16, .ref q_17, .int x_21, .long g_22, .long g_23, .int x_24, .int x_25, .int x_26, .int x_27, .ref q_18, .ref q_19, .int x_28, .int x_29, .int x_30, .int x_31, .ref q_20, .ref q_21, .int x_32, .int x_33, .ref q_22, .ref q_23, .ref q_24, .ref q_25, .int x_34, .int x_35, .int x_36]))] H := hP
    have hD : va_D A [(q_1, .inl (k 0, 27101, .inl (fun _ => 0))), (q_0, .inr (12, [.int 0, .int (-1), .ref q_1, .ref q_2, .ref q_3, .int x_8, .ref q_4, .ref q_5, .ref q_6, .ref q_7, .ref q_8, .int x_9, .int x_10, .int x_11, .int x_12, .long g_13, .int x_14, .int x_15, .int x_16, .ref q_9, .int x_17, .ref q_10, .ref q_11, .int x_18, .ref q_12, .ref q_13, .int x_19, .int x_20, .ref q_14, .ref q_15, .ref q_16, .ref q_17, .int x_21, .long g_22, .long g_23, .int x_24, .int x_25, .int x_26, .int x_27, .ref q_18, .ref q_19, .int x_28, .int x_29, .int x_30, .int x_31, .ref q_20, .ref q_21, .int x_32, .int x_33, .ref q_22, .ref q_23, .ref q_24, .ref q_25, .int x_34, .int x_35, .int x_36]))] := hD
    exact z_iret C0 hr hlk rfl hK hP hD hS (0, fun _ => 0) (Or.inl ⟨rfl, rfl, (Or.inl c1)⟩) [] rfl rfl rfl dX12_mark_51
  · refine lv_if_eq (tgt := 46) hx hb dX12_mark_9 (by decide) (fun c4 => absurd c4 (by decide)) (fun _ => ?_)
    refine lv_iload hx hb dX12_mark_12 (lv_at hl 4 rfl) ?_
    refine lv_i2l (v := (Int32.toInt64 x_3)) hx hb dX12_mark_14 rfl ?_
    refine lv_lconst (v := 0) hx hb dX12_mark_15 (by decide) ?_
    refine lv_ldc2 hx hb hown (hts _ kL_X12_151) dX12_mark_16 ?_
    refine z_bi0 (z_runS (As := [.long (Int32.toInt64 x_3), .long 0, .long 25]) (rest := []) C0 (c_X12_in_1 l D k (Int32.toInt64 x_3) 0 25 _) okS_X12_in kM_X12_100 rfl (z_p0 hK hN) rfl hl.1 rfl (Nat.le_of_ble_eq_true rfl) dX12_mark_19 rfl) hP hS hA (fun r5 u5 H locs hw5 hP hS => ?_)
    obtain ⟨i5, a5⟩ := u5
    dsimp only at hw5
    rcases hw5 with ⟨rfl, rfl, c5⟩ | ⟨rfl, rfl, c5⟩
    · refine lv_if_eq (tgt := 46) hx hb dX12_mark_22 (by decide) (fun _ => ?_) (fun c6 => absurd (by decide) c6)
      refine lv_aload_n hx hb dX12_mark_46 rfl (lv_at hl 0 rfl) ?_
      refine lv_iconst (v := (-1)) hx hb dX12_mark_47 (by decide) ?_
      refine z_bi (wr := [(q_1, .inl (k 0, 27101, .inl (fun _ => 0)))]) (z_runV (C := RX12) (As := [.int (-1)]) (rest := []) C0 (c_X12_told_1 l D k q_0 q_1 q_2 q_3 q_4 q_5 q_6 q_7 q_8 q_9 q_10 q_11 q_12 q_13 q_14 q_15 q_16 q_17 q_18 q_19 q_20 q_21 q_22 q_23 q_24 q_25 0 x_7 x_8 x_9 x_10 x_11 x_12 g_13 x_14 x_15 x_16 x_17 x_18 x_19 x_20 x_21 g_22 g_23 x_24 x_25 x_26 x_27 x_28 x_29 x_30 x_31 x_32 x_33 x_34 x_35 x_36 _) okV_X12_told kM_X12_106 rfl (z_pV (q0 := 0) hK hN hP hD [0] rfl rfl rfl rfl rfl) rfl hl.1 rfl (Nat.le_of_ble_eq_true rfl) dX12_mark_48 rfl) hP hD hS hA [0] [1] rfl rfl rfl rfl (fun r7 u7 H locs hw7 hP hD hS => ?_)
      obtain ⟨i7, a7⟩ := u7
      dsimp only at hw7
      obtain ⟨rfl, rfl⟩ := hw7
      have hP : va_P D vwCl [(q_1, .inl (k 0, 27101, .inl (fun _ => 0))), (q_0, .inr (12, [.int 0, .int (-1), .ref q_1, .ref q_2, .ref q_3, .int x_8, .ref q_4, .ref q_5, .ref q_6, .ref q_7, .ref q_8, .int x_9, .int x_10, .int x_11, .int x_12, .long g_13, .int x_14, .int x_15, .int x_16, .ref q_9, .int x_17, .ref q_10, .ref q_11, .int x_18, .ref q_12, .ref q_13, .int x_19, .int x_20, .ref q_14, .ref q_15, .ref q_16, .ref q_17, .int x_21, .long g_22, .long g_23, .int x_24, .int x_25, .int x_26, .int x_27, .ref q_18, .ref q_19, .int x_28, .int x_29, .int x_30, .int x_31, .ref q_20, .ref q_21, .int x_32, .int x_33, .ref q_22, .ref q_23, .ref q_24, .ref q_25, .int x_34, .int x_35, .int x_36]))] H := hP
      have hD : va_D A [(q_1, .inl (k 0, 27101, .inl (fun _ => 0))), (q_0, .inr (12, [.int 0, .int (-1), .ref q_1, .ref q_2, .ref q_3, .int x_8, .ref q_4, .ref q_5, .ref q_6, .ref q_7, .ref q_8, .int x_9, .int x_10, .int x_11, .int x_12, .long g_13, .int x_14, .int x_15, .int x_16, .ref q_9, .int x_17, .ref q_10, .ref q_11, .int x_18, .ref q_12, .ref q_13, .int x_19, .int x_20, .ref q_14, .ref q_15, .ref q_16, .ref q_17, .int x_21, .long g_22, .long g_23, .int x_24, .int x_25, .int x_26, .int x_27, .ref q_18, .ref q_19, .int x_28, .int x_29, .int x_30, .int x_31, .ref q_20, .ref q_21, .int x_32, .int x_33, .ref q_22, .ref q_23, .ref q_24, .ref q_25, .int x_34, .int x_35, .int x_36]))] := hD
      exact z_iret C0 hr hlk rfl hK hP hD hS (0, fun _ => 0) (Or.inl ⟨rfl, rfl, (Or.inr (Or.inl (⟨c1, c5⟩)))⟩) [] rfl rfl rfl dX12_mark_51
    · refine lv_if_eq (tgt := 46) hx hb dX12_mark_22 (by decide) (fun c8 => absurd c8 (by decide)) (fun _ => ?_)
      refine lv_iload hx hb dX12_mark_25 (lv_at hl 5 rfl) ?_
      refine lv_i2l (v := (Int32.toInt64 x_4)) hx hb dX12_mark_27 rfl ?_
      refine lv_lconst (v := 0) hx hb dX12_mark_28 (by decide) ?_
      refine lv_ldc2 hx hb hown (hts _ kL_X12_153) dX12_mark_29 ?_
      refine z_bi0 (z_runS (As := [.long (Int32.toInt64 x_4), .long 0, .long 300]) (rest := []) C0 (c_X12_in_1 l D k (Int32.toInt64 x_4) 0 300 _) okS_X12_in kM_X12_100 rfl (z_p0 hK hN) rfl hl.1 rfl (Nat.le_of_ble_eq_true rfl) dX12_mark_32 rfl) hP hS hA (fun r9 u9 H locs hw9 hP hS => ?_)
      obtain ⟨i9, a9⟩ := u9
      dsimp only at hw9
      rcases hw9 with ⟨rfl, rfl, c9⟩ | ⟨rfl, rfl, c9⟩
      · refine lv_if_eq (tgt := 46) hx hb dX12_mark_35 (by decide) (fun _ => ?_) (fun c10 => absurd (by decide) c10)
        refine lv_aload_n hx hb dX12_mark_46 rfl (lv_at hl 0 rfl) ?_
        refine lv_iconst (v := (-1)) hx hb dX12_mark_47 (by decide) ?_
        refine z_bi (wr := [(q_1, .inl (k 0, 27101, .inl (fun _ => 0)))]) (z_runV (C := RX12) (As := [.int (-1)]) (rest := []) C0 (c_X12_told_1 l D k q_0 q_1 q_2 q_3 q_4 q_5 q_6 q_7 q_8 q_9 q_10 q_11 q_12 q_13 q_14 q_15 q_16 q_17 q_18 q_19 q_20 q_21 q_22 q_23 q_24 q_25 0 x_7 x_8 x_9 x_10 x_11 x_12 g_13 x_14 x_15 x_16 x_17 x_18 x_19 x_20 x_21 g_22 g_23 x_24 x_25 x_26 x_27 x_28 x_29 x_30 x_31 x_32 x_33 x_34 x_35 x_36 _) okV_X12_told kM_X12_106 rfl (z_pV (q0 := 0) hK hN hP hD [0] rfl rfl rfl rfl rfl) rfl hl.1 rfl (Nat.le_of_ble_eq_true rfl) dX12_mark_48 rfl) hP hD hS hA [0] [1] rfl rfl rfl rfl (fun r11 u11 H locs hw11 hP hD hS => ?_)
        obtain ⟨i11, a11⟩ := u11
        dsimp only at hw11
        obtain ⟨rfl, rfl⟩ := hw11
        have hP : va_P D vwCl [(q_1, .inl (k 0, 27101, .inl (fun _ => 0))), (q_0, .inr (12, [.int 0, .int (-1), .ref q_1, .ref q_2, .ref q_3, .int x_8, .ref q_4, .ref q_5, .ref q_6, .ref q_7, .ref q_8, .int x_9, .int x_10, .int x_11, .int x_12, .long g_13, .int x_14, .int x_15, .int x_16, .ref q_9, .int x_17, .ref q_10, .ref q_11, .int x_18, .ref q_12, .ref q_13, .int x_19, .int x_20, .ref q_14, .ref q_15, .ref q_16, .ref q_17, .int x_21, .long g_22, .long g_23, .int x_24, .int x_25, .int x_26, .int x_27, .ref q_18, .ref q_19, .int x_28, .int x_29, .int x_30, .int x_31, .ref q_20, .ref q_21, .int x_32, .int x_33, .ref q_22, .ref q_23, .ref q_24, .ref q_25, .int x_34, .int x_35, .int x_36]))] H := hP
        have hD : va_D A [(q_1, .inl (k 0, 27101, .inl (fun _ => 0))), (q_0, .inr (12, [.int 0, .int (-1), .ref q_1, .ref q_2, .ref q_3, .int x_8, .ref q_4, .ref q_5, .ref q_6, .ref q_7, .ref q_8, .int x_9, .int x_10, .int x_11, .int x_12, .long g_13, .int x_14, .int x_15, .int x_16, .ref q_9, .int x_17, .ref q_10, .ref q_11, .int x_18, .ref q_12, .ref q_13, .int x_19, .int x_20, .ref q_14, .ref q_15, .ref q_16, .ref q_17, .int x_21, .long g_22, .long g_23, .int x_24, .int x_25, .int x_26, .int x_27, .ref q_18, .ref q_19, .int x_28, .int x_29, .int x_30, .int x_31, .ref q_20, .ref q_21, .int x_32, .int x_33, .ref q_22, .ref q_23, .ref q_24, .ref q_25, .int x_34, .int x_35, .int x_36]))] := hD
        exact z_iret C0 hr hlk rfl hK hP hD hS (0, fun _ => 0) (Or.inl ⟨rfl, rfl, (Or.inr (Or.inr (Or.inl (⟨c1, c5, c9⟩))))⟩) [] rfl rfl rfl dX12_mark_51
      · refine lv_if_eq (tgt := 46) hx hb dX12_mark_35 (by decide) (fun c12 => absurd c12 (by decide)) (fun _ => ?_)
        refine lv_iload hx hb dX12_mark_38 (lv_at hl 6 rfl) ?_
        refine z_bi0 (z_runS (As := [.int x_5]) (rest := []) C0 (c_X12_isDay_1 l D k x_5 _) okS_X12_isDay kM_X12_127 rfl (z_p0 hK hN) rfl hl.1 rfl (Nat.le_of_ble_eq_true rfl) dX12_mark_40 rfl) hP hS hA (fun r13 u13 H locs hw13 hP hS => ?_)
        obtain ⟨i13, a13⟩ := u13
        dsimp only at hw13
        rcases hw13 with ⟨rfl, rfl, c13⟩ | ⟨rfl, rfl, c13⟩
        · refine lv_if_ne (tgt := 52) hx hb dX12_mark_43 (by decide) (fun c14 => absurd (by decide) c14) (fun _ => ?_)
          refine lv_aload_n hx hb dX12_mark_46 rfl (lv_at hl 0 rfl) ?_
          refine lv_iconst (v := (-1)) hx hb dX12_mark_47 (by decide) ?_
          refine z_bi (wr := [(q_1, .inl (k 0, 27101, .inl (fun _ => 0)))]) (z_runV (C := RX12) (As := [.int (-1)]) (rest := []) C0 (c_X12_told_1 l D k q_0 q_1 q_2 q_3 q_4 q_5 q_6 q_7 q_8 q_9 q_10 q_11 q_12 q_13 q_14 q_15 q_16 q_17 q_18 q_19 q_20 q_21 q_22 q_23 q_24 q_25 0 x_7 x_8 x_9 x_10 x_11 x_12 g_13 x_14 x_15 x_16 x_17 x_18 x_19 x_20 x_21 g_22 g_23 x_24 x_25 x_26 x_27 x_28 x_29 x_30 x_31 x_32 x_33 x_34 x_35 x_36 _) okV_X12_told kM_X12_106 rfl (z_pV (q0 := 0) hK hN hP hD [0] rfl rfl rfl rfl rfl) rfl hl.1 rfl (Nat.le_of_ble_eq_true rfl) dX12_mark_48 rfl) hP hD hS hA [0] [1] rfl rfl rfl rfl (fun r15 u15 H locs hw15 hP hD hS => ?_)
          obtain ⟨i15, a15⟩ := u15
          dsimp only at hw15
          obtain ⟨rfl, rfl⟩ := hw15
          have hP : va_P D vwCl [(q_1, .inl (k 0, 27101, .inl (fun _ => 0))), (q_0, .inr (12, [.int 0, .int (-1), .ref q_1, .ref q_2, .ref q_3, .int x_8, .ref q_4, .ref q_5, .ref q_6, .ref q_7, .ref q_8, .int x_9, .int x_10, .int x_11, .int x_12, .long g_13, .int x_14, .int x_15, .int x_16, .ref q_9, .int x_17, .ref q_10, .ref q_11, .int x_18, .ref q_12, .ref q_13, .int x_19, .int x_20, .ref q_14, .ref q_15, .ref q_16, .ref q_17, .int x_21, .long g_22, .long g_23, .int x_24, .int x_25, .int x_26, .int x_27, .ref q_18, .ref q_19, .int x_28, .int x_29, .int x_30, .int x_31, .ref q_20, .ref q_21, .int x_32, .int x_33, .ref q_22, .ref q_23, .ref q_24, .ref q_25, .int x_34, .int x_35, .int x_36]))] H := hP
          have hD : va_D A [(q_1, .inl (k 0, 27101, .inl (fun _ => 0))), (q_0, .inr (12, [.int 0, .int (-1), .ref q_1, .ref q_2, .ref q_3, .int x_8, .ref q_4, .ref q_5, .ref q_6, .ref q_7, .ref q_8, .int x_9, .int x_10, .int x_11, .int x_12, .long g_13, .int x_14, .int x_15, .int x_16, .ref q_9, .int x_17, .ref q_10, .ref q_11, .int x_18, .ref q_12, .ref q_13, .int x_19, .int x_20, .ref q_14, .ref q_15, .ref q_16, .ref q_17, .int x_21, .long g_22, .long g_23, .int x_24, .int x_25, .int x_26, .int x_27, .ref q_18, .ref q_19, .int x_28, .int x_29, .int x_30, .int x_31, .ref q_20, .ref q_21, .int x_32, .int x_33, .ref q_22, .ref q_23, .ref q_24, .ref q_25, .int x_34, .int x_35, .int x_36]))] := hD
          exact z_iret C0 hr hlk rfl hK hP hD hS (0, fun _ => 0) (Or.inl ⟨rfl, rfl, (Or.inr (Or.inr (Or.inr (⟨c1, c5, c9, c13⟩))))⟩) [] rfl rfl rfl dX12_mark_51
        · refine lv_if_ne (tgt := 52) hx hb dX12_mark_43 (by decide) (fun _ => ?_) (fun c16 => absurd c16 (by decide))
          refine lv_aload_n hx hb dX12_mark_52 rfl (lv_at hl 0 rfl) ?_
          refine lv_iload_n hx hb dX12_mark_53 rfl (lv_at hl 1 rfl) ?_
          refine z_bi (wr := []) (z_runV (C := RX12) (As := [.int x_0]) (rest := []) C0 (c_X12_isSchool_1 l D k q_0 q_1 q_2 q_3 q_4 q_5 q_6 q_7 q_8 q_9 q_10 q_11 q_12 q_13 q_14 q_15 q_16 q_17 q_18 q_19 q_20 q_21 q_22 q_23 q_24 q_25 x_0 0 x_7 x_8 x_9 x_10 x_11 x_12 g_13 x_14 x_15 x_16 x_17 x_18 x_19 x_20 x_21 g_22 g_23 x_24 x_25 x_26 x_27 x_28 x_29 x_30 x_31 x_32 x_33 x_34 x_35 x_36 _) okV_X12_isSchool kM_X12_131 rfl (z_pV (q0 := 0) hK hN hP hD [0, 1] rfl rfl rfl rfl rfl) rfl hl.1 rfl (Nat.le_of_ble_eq_true rfl) dX12_mark_54 rfl) hP hD hS hA [0, 1] [] rfl rfl rfl rfl (fun r17 u17 H locs hw17 hP hD hS => ?_)
          obtain ⟨i17, a17⟩ := u17
          dsimp only at hw17
          obtain ⟨rfl, rfl⟩ := hw17
          have hP : va_P D vwCl [(q_0, .inr (12, [.int 0, .int x_7, .ref q_1, .ref q_2, .ref q_3, .int x_8, .ref q_4, .ref q_5, .ref q_6, .ref q_7, .ref q_8, .int x_9, .int x_10, .int x_11, .int x_12, .long g_13, .int x_14, .int x_15, .int x_16, .ref q_9, .int x_17, .ref q_10, .ref q_11, .int x_18, .ref q_12, .ref q_13, .int x_19, .int x_20, .ref q_14, .ref q_15, .ref q_16, .ref q_17, .int x_21, .long g_22, .long g_23, .int x_24, .int x_25, .int x_26, .int x_27, .ref q_18, .ref q_19, .int x_28, .int x_29, .int x_30, .int x_31, .ref q_20, .ref q_21, .int x_32, .int x_33, .ref q_22, .ref q_23, .ref q_24, .ref q_25, .int x_34, .int x_35, .int x_36])), (q_1, .inl (k 0, 27101, .inl (fun _ => 0)))] H := hP
          have hD : va_D A [(q_0, .inr (12, [.int 0, .int x_7, .ref q_1, .ref q_2, .ref q_3, .int x_8, .ref q_4, .ref q_5, .ref q_6, .ref q_7, .ref q_8, .int x_9, .int x_10, .int x_11, .int x_12, .long g_13, .int x_14, .int x_15, .int x_16, .ref q_9, .int x_17, .ref q_10, .ref q_11, .int x_18, .ref q_12, .ref q_13, .int x_19, .int x_20, .ref q_14, .ref q_15, .ref q_16, .ref q_17, .int x_21, .long g_22, .long g_23, .int x_24, .int x_25, .int x_26, .int x_27, .ref q_18, .ref q_19, .int x_28, .int x_29, .int x_30, .int x_31, .ref q_20, .ref q_21, .int x_32, .int x_33, .ref q_22, .ref q_23, .ref q_24, .ref q_25, .int x_34, .int x_35, .int x_36])), (q_1, .inl (k 0, 27101, .inl (fun _ => 0)))] := hD
          refine lv_if_eq (tgt := 68) hx hb dX12_mark_57 (by decide) (fun _ => ?_) (fun c18 => absurd (by decide) c18)
          refine lv_aload_n hx hb dX12_mark_68 rfl (lv_at hl 0 rfl) ?_
          refine lv_bipush (v := (-2)) hx hb dX12_mark_69 (by decide) ?_
          refine z_bi (wr := [(q_1, .inl (k 0, 27101, .inl (fun _ => 0)))]) (z_runV (C := RX12) (As := [.int (-2)]) (rest := []) C0 (c_X12_told_3 l D k q_0 q_1 q_2 q_3 q_4 q_5 q_6 q_7 q_8 q_9 q_10 q_11 q_12 q_13 q_14 q_15 q_16 q_17 q_18 q_19 q_20 q_21 q_22 q_23 q_24 q_25 0 x_7 x_8 x_9 x_10 x_11 x_12 g_13 x_14 x_15 x_16 x_17 x_18 x_19 x_20 x_21 g_22 g_23 x_24 x_25 x_26 x_27 x_28 x_29 x_30 x_31 x_32 x_33 x_34 x_35 x_36 _) okV_X12_told kM_X12_106 rfl (z_pV (q0 := 0) hK hN hP hD [0] rfl rfl rfl rfl rfl) rfl hl.1 rfl (Nat.le_of_ble_eq_true rfl) dX12_mark_71 rfl) hP hD hS hA [0] [1] rfl rfl rfl rfl (fun r19 u19 H locs hw19 hP hD hS => ?_)
          obtain ⟨i19, a19⟩ := u19
          dsimp only at hw19
          obtain ⟨rfl, rfl⟩ := hw19
          have hP : va_P D vwCl [(q_1, .inl (k 0, 27101, .inl (fun _ => 0))), (q_0, .inr (12, [.int 0, .int (-2), .ref q_1, .ref q_2, .ref q_3, .int x_8, .ref q_4, .ref q_5, .ref q_6, .ref q_7, .ref q_8, .int x_9, .int x_10, .int x_11, .int x_12, .long g_13, .int x_14, .int x_15, .int x_16, .ref q_9, .int x_17, .ref q_10, .ref q_11, .int x_18, .ref q_12, .ref q_13, .int x_19, .int x_20, .ref q_14, .ref q_15, .ref q_16, .ref q_17, .int x_21, .long g_22, .long g_23, .int x_24, .int x_25, .int x_26, .int x_27, .ref q_18, .ref q_19, .int x_28, .int x_29, .int x_30, .int x_31, .ref q_20, .ref q_21, .int x_32, .int x_33, .ref q_22, .ref q_23, .ref q_24, .ref q_25, .int x_34, .int x_35, .int x_36]))] H := hP
          have hD : va_D A [(q_1, .inl (k 0, 27101, .inl (fun _ => 0))), (q_0, .inr (12, [.int 0, .int (-2), .ref q_1, .ref q_2, .ref q_3, .int x_8, .ref q_4, .ref q_5, .ref q_6, .ref q_7, .ref q_8, .int x_9, .int x_10, .int x_11, .int x_12, .long g_13, .int x_14, .int x_15, .int x_16, .ref q_9, .int x_17, .ref q_10, .ref q_11, .int x_18, .ref q_12, .ref q_13, .int x_19, .int x_20, .ref q_14, .ref q_15, .ref q_16, .ref q_17, .int x_21, .long g_22, .long g_23, .int x_24, .int x_25, .int x_26, .int x_27, .ref q_18, .ref q_19, .int x_28, .int x_29, .int x_30, .int x_31, .ref q_20, .ref q_21, .int x_32, .int x_33, .ref q_22, .ref q_23, .ref q_24, .ref q_25, .int x_34, .int x_35, .int x_36]))] := hD
          exact z_iret C0 hr hlk rfl hK hP hD hS (1, fun _ => 0) (Or.inr (⟨rfl, rfl, ⟨c1, c5, c9, c13⟩⟩)) [] rfl rfl rfl dX12_mark_74
