set_option maxHeartbeats 4000000 in
set_option maxRecDepth 100000 in
theorem c_X12_four_5 (l : Launch) (D : va_G) (k : Nat → ClassId) (q_0 : Nat) (q_1 : Nat) (q_2 : Nat) (q_3 : Nat) (q_4 : Nat) (q_5 : Nat) (q_6 : Nat) (q_7 : Nat) (q_8 : Nat) (q_9 : Nat) (q_10 : Nat) (q_11 : Nat) (q_12 : Nat) (q_13 : Nat) (q_14 : Nat) (q_15 : Nat) (q_16 : Nat) (q_17 : Nat) (q_18 : Nat) (q_19 : Nat) (q_20 : Nat) (q_21 : Nat) (q_22 : Nat) (q_23 : Nat) (q_24 : Nat) (q_25 : Nat) (x_0 : Int32) (x_1 : Int32) (x_2 : Int32) (x_3 : Int32) (x_4 : Int32) (x_5 : Int32) (x_6 : Int32) (g_7 : Int64) (x_8 : Int32) (x_9 : Int32) (x_10 : Int32) (x_11 : Int32) (x_12 : Int32) (x_13 : Int32) (x_14 : Int32) (x_15 : Int32) (g_16 : Int64) (g_17 : Int64) (x_18 : Int32) (x_19 : Int32) (x_20 : Int32) (x_21 : Int32) (x_22 : Int32) (x_23 : Int32) (x_24 : Int32) (x_25 : Int32) (x_26 : Int32) (x_27 : Int32) (x_28 : Int32) (x_29 : Int32) (x_30 : Int32) (f_0 : Nat → Int32) : zMv l yX12_four cX12_four 3 none ({ frames := 0, cells := 0, slots := 0, locals := 0 }) D k [.ref q_0, .int x_0] [(q_0, .inr (12, [.int x_1, .int x_2, .ref q_2, .ref q_3, .ref q_4, .int x_3, .ref q_5, .ref q_6, .ref q_7, .ref q_8, .ref q_1, .int 16, .int x_4, .int x_5, .int x_6, .long g_7, .int x_8, .int x_9, .int x_10, .ref q_9, .int x_11, .ref q_10, .ref q_11, .int x_12, .ref q_12, .ref q_13, .int x_13, .int x_14, .ref q_14, .ref q_15, .ref q_16, .ref q_17, .int x_15, .long g_16, .long g_17, .int x_18, .int x_19, .int x_20, .int x_21, .ref q_18, .ref q_19, .int x_22, .int x_23, .int x_24, .int x_25, .ref q_20, .ref q_21, .int x_26, .int x_27, .ref q_22, .ref q_23, .ref q_24, .ref q_25, .int x_28, .int x_29, .int x_30])), (q_1, .inl (k 0, 400, .inl f_0))] (fun u => u.1 = 0) (fun u => [(q_0, .inr (12, [.int x_1, .int x_2, .ref q_2, .ref q_3, .ref q_4, .int x_3, .ref q_5, .ref q_6, .ref q_7, .ref q_8, .ref q_1, .int 20, .int x_4, .int x_5, .int x_6, .long g_7, .int x_8, .int x_9, .int x_10, .ref q_9, .int x_11, .ref q_10, .ref q_11, .int x_12, .ref q_12, .ref q_13, .int x_13, .int x_14, .ref q_14, .ref q_15, .ref q_16, .ref q_17, .int x_15, .long g_16, .long g_17, .int x_18, .int x_19, .int x_20, .int x_21, .ref q_18, .ref q_19, .int x_22, .int x_23, .int x_24, .int x_25, .ref q_20, .ref q_21, .int x_26, .int x_27, .ref q_22, .ref q_23, .ref q_24, .ref q_25, .int x_28, .int x_29, .int x_30])), (q_1, .inl (k 0, 400, .inl (upd (upd (upd (upd f_0 16 ((x_0 >>> (24 &&& 31)) &&& 255)) 17 ((x_0 >>> (16 &&& 31)) &&& 255)) 18 ((x_0 >>> (8 &&& 31)) &&& 255)) 19 ((x_0 >>> (0 &&& 31)) &&& 255))))]) := by
  refine zMv_of (own := RX12) (by decide +kernel) rfl (Nat.le_of_ble_eq_true rfl) ?_
  intro p e s m args below meth c A ls C0 hr hlk hin hP hD hS hA hK hN hl
  have hx := C0.1
  have hb := C0.2.1
  have hml := C0.2.2.1
  have hown := C0.2.2.2.1
  have hts := C0.2.2.2.2
  have hl : lv_has ls 3 [(0, .ref q_0), (1, .int x_0)] := hl
  have hP : va_P D vwCl [(q_0, .inr (12, [.int x_1, .int x_2, .ref q_2, .ref q_3, .ref q_4, .int x_3, .ref q_5, .ref q_6, .ref q_7, .ref q_8, .ref q_1, .int 16, .int x_4, .int x_5, .int x_6, .long g_7, .int x_8, .int x_9, .int x_10, .ref q_9, .int x_11, .ref q_10, .ref q_11, .int x_12, .ref q_12, .ref q_13, .int x_13, .int x_14, .ref q_14, .ref q_15, .ref q_16, .ref q_17, .int x_15, .long g_16, .long g_17, .int x_18, .int x_19, .int x_20, .int x_21, .ref q_18, .ref q_19, .int x_22, .int x_23, .int x_24, .int x_25, .ref q_20, .ref q_21, .int x_26, .int x_27, .ref q_22, .ref q_23, .ref q_24, .ref q_25, .int x_28, .int x_29, .int x_30])), (q_1, .inl (k 0, 400, .inl f_0))] s.heap := hP
  refine lv_bipush (v := 24) hx hb dX12_four_0 (by decide) ?_
  refine lv_istore_n (lv' := [(2, .int 24), (0, .ref q_0), (1, .int x_0)]) hx hb dX12_four_2 rfl hl (by decide) rfl (fun ls hl => ?_)
  refine lv_iload_n hx hb dX12_four_3 rfl (lv_at hl 0 rfl) ?_
  refine lv_if_lt (tgt := 39) hx hb dX12_four_4 (by decide) (fun c1 => absurd c1 (by decide)) (fun _ => ?_)
  refine lv_aload_n hx hb dX12_four_7 rfl (lv_at hl 1 rfl) ?_
  refine va_get (D := D) (ci := 12) (v := .ref q_1) (C := RX12) (T := TX12) (N := 56) hx hb hts inX12 hown hK hP 0 rfl rfl 10 (by decide) (hts _ kF_X12_33) (fun _ h9 => h9) rfl dX12_four_8 ?_
  refine lv_aload_n hx hb dX12_four_11 rfl (lv_at hl 1 rfl) ?_
  refine va_get (D := D) (ci := 12) (v := .int 16) (C := RX12) (T := TX12) (N := 56) hx hb hts inX12 hown hK hP 0 rfl rfl 11 (by decide) (hts _ kF_X12_193) (fun _ h9 => h9) rfl dX12_four_12 ?_
  refine lv_iload_n hx hb dX12_four_15 rfl (lv_at hl 2 rfl) ?_
  refine lv_iload_n hx hb dX12_four_16 rfl (lv_at hl 0 rfl) ?_
  refine lv_ishr hx hb dX12_four_17 ?_
  refine lv_sipush (v := 255) hx hb dX12_four_18 (by decide) ?_
  refine lv_iand hx hb dX12_four_21 ?_
  refine va_iast hx hb hK hP hD hS 1 0 rfl rfl (by unfold vp_in; decide) dX12_four_22 (fun H locs hP hD hS => ?_)
  have hP : va_P D vwCl [(q_0, .inr (12, [.int x_1, .int x_2, .ref q_2, .ref q_3, .ref q_4, .int x_3, .ref q_5, .ref q_6, .ref q_7, .ref q_8, .ref q_1, .int 16, .int x_4, .int x_5, .int x_6, .long g_7, .int x_8, .int x_9, .int x_10, .ref q_9, .int x_11, .ref q_10, .ref q_11, .int x_12, .ref q_12, .ref q_13, .int x_13, .int x_14, .ref q_14, .ref q_15, .ref q_16, .ref q_17, .int x_15, .long g_16, .long g_17, .int x_18, .int x_19, .int x_20, .int x_21, .ref q_18, .ref q_19, .int x_22, .int x_23, .int x_24, .int x_25, .ref q_20, .ref q_21, .int x_26, .int x_27, .ref q_22, .ref q_23, .ref q_24, .ref q_25, .int x_28, .int x_29, .int x_30])), (q_1, .inl (k 0, 400, .inl (upd f_0 16 ((x_0 >>> (24 &&& 31)) &&& 255))))] H := hP
  have hD : va_D A [(q_0, .inr (12, [.int x_1, .int x_2, .ref q_2, .ref q_3, .ref q_4, .int x_3, .ref q_5, .ref q_6, .ref q_7, .ref q_8, .ref q_1, .int 16, .int x_4, .int x_5, .int x_6, .long g_7, .int x_8, .int x_9, .int x_10, .ref q_9, .int x_11, .ref q_10, .ref q_11, .int x_12, .ref q_12, .ref q_13, .int x_13, .int x_14, .ref q_14, .ref q_15, .ref q_16, .ref q_17, .int x_15, .long g_16, .long g_17, .int x_18, .int x_19, .int x_20, .int x_21, .ref q_18, .ref q_19, .int x_22, .int x_23, .int x_24, .int x_25, .ref q_20, .ref q_21, .int x_26, .int x_27, .ref q_22, .ref q_23, .ref q_24, .ref q_25, .int x_28, .int x_29, .int x_30])), (q_1, .inl (k 0, 400, .inl (upd f_0 16 ((x_0 >>> (24 &&& 31)) &&& 255))))] := hD
  refine lv_aload_n hx hb dX12_four_23 rfl (lv_at hl 1 rfl) ?_
  refine lv_dup hx hb dX12_four_24 rfl ?_
  refine va_get (D := D) (ci := 12) (v := .int 16) (C := RX12) (T := TX12) (N := 56) hx hb hts inX12 hown hK hP 0 rfl rfl 11 (by decide) (hts _ kF_X12_193) (fun _ h9 => h9) rfl dX12_four_25 ?_
  refine lv_iconst (v := 1) hx hb dX12_four_28 (by decide) ?_
  refine lv_iadd hx hb dX12_four_29 ?_
  refine lv_toc (v := 17) (by decide) ?_
  refine va_put (D := D) (ci := 12) (v := .int 17) (ty := .int) (C := RX12) (T := TX12) (N := 56) hx hb hts inX12 tyX12 tyX12_ok nmX12 hown hK hP hD hS 0 rfl rfl 11 (by decide) (hts _ kF_X12_193) (fun _ h9 => h9) rfl (by decide +kernel) rfl rfl (Nat.le_of_ble_eq_true rfl) dX12_four_30 (fun H locs hP hD hS => ?_)
  have hP : va_P D vwCl [(q_0, .inr (12, [.int x_1, .int x_2, .ref q_2, .ref q_3, .ref q_4, .int x_3, .ref q_5, .ref q_6, .ref q_7, .ref q_8, .ref q_1, .int 17, .int x_4, .int x_5, .int x_6, .long g_7, .int x_8, .int x_9, .int x_10, .ref q_9, .int x_11, .ref q_10, .ref q_11, .int x_12, .ref q_12, .ref q_13, .int x_13, .int x_14, .ref q_14, .ref q_15, .ref q_16, .ref q_17, .int x_15, .long g_16, .long g_17, .int x_18, .int x_19, .int x_20, .int x_21, .ref q_18, .ref q_19, .int x_22, .int x_23, .int x_24, .int x_25, .ref q_20, .ref q_21, .int x_26, .int x_27, .ref q_22, .ref q_23, .ref q_24, .ref q_25, .int x_28, .int x_29, .int x_30])), (q_1, .inl (k 0, 400, .inl (upd f_0 16 ((x_0 >>> (24 &&& 31)) &&& 255))))] H := hP
  have hD : va_D A [(q_0, .inr (12, [.int x_1, .int x_2, .ref q_2, .ref q_3, .ref q_4, .int x_3, .ref q_5, .ref q_6, .ref q_7, .ref q_8, .ref q_1, .int 17, .int x_4, .int x_5, .int x_6, .long g_7, .int x_8, .int x_9, .int x_10, .ref q_9, .int x_11, .ref q_10, .ref q_11, .int x_12, .ref q_12, .ref q_13, .int x_13, .int x_14, .ref q_14, .ref q_15, .ref q_16, .ref q_17, .int x_15, .long g_16, .long g_17, .int x_18, .int x_19, .int x_20, .int x_21, .ref q_18, .ref q_19, .int x_22, .int x_23, .int x_24, .int x_25, .ref q_20, .ref q_21, .int x_26, .int x_27, .ref q_22, .ref q_23, .ref q_24, .ref q_25, .int x_28, .int x_29, .int x_30])), (q_1, .inl (k 0, 400, .inl (upd f_0 16 ((x_0 >>> (24 &&& 31)) &&& 255))))] := hD
  refine lv_iinc (v := 16) (lv' := [(2, .int 16), (0, .ref q_0), (1, .int x_0)]) hx hb dX12_four_33 hl (k := 0) rfl (by decide) (by decide) rfl (fun ls hl => ?_)
  refine lv_goto (tgt := 3) hx hb dX12_four_36 (by decide) ?_
  refine lv_iload_n hx hb dX12_four_3 rfl (lv_at hl 0 rfl) ?_
  refine lv_if_lt (tgt := 39) hx hb dX12_four_4 (by decide) (fun c2 => absurd c2 (by decide)) (fun _ => ?_)
  refine lv_aload_n hx hb dX12_four_7 rfl (lv_at hl 1 rfl) ?_
  refine va_get (D := D) (ci := 12) (v := .ref q_1) (C := RX12) (T := TX12) (N := 56) hx hb hts inX12 hown hK hP 0 rfl rfl 10 (by decide) (hts _ kF_X12_33) (fun _ h9 => h9) rfl dX12_four_8 ?_
  refine lv_aload_n hx hb dX12_four_11 rfl (lv_at hl 1 rfl) ?_
  refine va_get (D := D) (ci := 12) (v := .int 17) (C := RX12) (T := TX12) (N := 56) hx hb hts inX12 hown hK hP 0 rfl rfl 11 (by decide) (hts _ kF_X12_193) (fun _ h9 => h9) rfl dX12_four_12 ?_
  refine lv_iload_n hx hb dX12_four_15 rfl (lv_at hl 2 rfl) ?_
  refine lv_iload_n hx hb dX12_four_16 rfl (lv_at hl 0 rfl) ?_
  refine lv_ishr hx hb dX12_four_17 ?_
  refine lv_sipush (v := 255) hx hb dX12_four_18 (by decide) ?_
  refine lv_iand hx hb dX12_four_21 ?_
  refine va_iast hx hb hK hP hD hS 1 0 rfl rfl (by unfold vp_in; decide) dX12_four_22 (fun H locs hP hD hS => ?_)
  have hP : va_P D vwCl [(q_0, .inr (12, [.int x_1, .int x_2, .ref q_2, .ref q_3, .ref q_4, .int x_3, .ref q_5, .ref q_6, .ref q_7, .ref q_8, .ref q_1, .int 17, .int x_4, .int x_5, .int x_6, .long g_7, .int x_8, .int x_9, .int x_10, .ref q_9, .int x_11, .ref q_10, .ref q_11, .int x_12, .ref q_12, .ref q_13, .int x_13, .int x_14, .ref q_14, .ref q_15, .ref q_16, .ref q_17, .int x_15, .long g_16, .long g_17, .int x_18, .int x_19, .int x_20, .int x_21, .ref q_18, .ref q_19, .int x_22, .int x_23, .int x_24, .int x_25, .ref q_20, .ref q_21, .int x_26, .int x_27, .ref q_22, .ref q_23, .ref q_24, .ref q_25, .int x_28, .int x_29, .int x_30])), (q_1, .inl (k 0, 400, .inl (upd (upd f_0 16 ((x_0 >>> (24 &&& 31)) &&& 255)) 17 ((x_0 >>> (16 &&& 31)) &&& 255))))] H := hP
  have hD : va_D A [(q_0, .inr (12, [.int x_1, .int x_2, .ref q_2, .ref q_3, .ref q_4, .int x_3, .ref q_5, .ref q_6, .ref q_7, .ref q_8, .ref q_1, .int 17, .int x_4, .int x_5, .int x_6, .long g_7, .int x_8, .int x_9, .int x_10, .ref q_9, .int x_11, .ref q_10, .ref q_11, .int x_12, .ref q_12, .ref q_13, .int x_13, .int x_14, .ref q_14, .ref q_15, .ref q_16, .ref q_17, .int x_15, .long g_16, .long g_17, .int x_18, .int x_19, .int x_20, .int x_21, .ref q_18, .ref q_19, .int x_22, .int x_23, .int x_24, .int x_25, .ref q_20, .ref q_21, .int x_26, .int x_27, .ref q_22, .ref q_23, .ref q_24, .ref q_25, .int x_28, .int x_29, .int x_30])), (q_1, .inl (k 0, 400, .inl (upd (upd f_0 16 ((x_0 >>> (24 &&& 31)) &&& 255)) 17 ((x_0 >>> (16 &&& 31)) &&& 255))))] := hD
  refine lv_aload_n hx hb dX12_four_23 rfl (lv_at hl 1 rfl) ?_
  refine lv_dup hx hb dX12_four_24 rfl ?_
  refine va_get (D := D) (ci := 12) (v := .int 17) (C := RX12) (T := TX12) (N := 56) hx hb hts inX12 hown hK hP 0 rfl rfl 11 (by decide) (hts _ kF_X12_193) (fun _ h9 => h9) rfl dX12_four_25 ?_
  refine lv_iconst (v := 1) hx hb dX12_four_28 (by decide) ?_
  refine lv_iadd hx hb dX12_four_29 ?_
  refine lv_toc (v := 18) (by decide) ?_
  refine va_put (D := D) (ci := 12) (v := .int 18) (ty := .int) (C := RX12) (T := TX12) (N := 56) hx hb hts inX12 tyX12 tyX12_ok nmX12 hown hK hP hD hS 0 rfl rfl 11 (by decide) (hts _ kF_X12_193) (fun _ h9 => h9) rfl (by decide +kernel) rfl rfl (Nat.le_of_ble_eq_true rfl) dX12_four_30 (fun H locs hP hD hS => ?_)
  have hP : va_P D vwCl [(q_0, .inr (12, [.int x_1, .int x_2, .ref q_2, .ref q_3, .ref q_4, .int x_3, .ref q_5, .ref q_6, .ref q_7, .ref q_8, .ref q_1, .int 18, .int x_4, .int x_5, .int x_6, .long g_7, .int x_8, .int x_9, .int x_10, .ref q_9, .int x_11, .ref q_10, .ref q_11, .int x_12, .ref q_12, .ref q_13, .int x_13, .int x_14, .ref q_14, .ref q_15, .ref q_16, .ref q_17, .int x_15, .long g_16, .long g_17, .int x_18, .int x_19, .int x_20, .int x_21, .ref q_18, .ref q_19, .int x_22, .int x_23, .int x_24, .int x_25, .ref q_20, .ref q_21, .int x_26, .int x_27, .ref q_22, .ref q_23, .ref q_24, .ref q_25, .int x_28, .int x_29, .int x_30])), (q_1, .inl (k 0, 400, .inl (upd (upd f_0 16 ((x_0 >>> (24 &&& 31)) &&& 255)) 17 ((x_0 >>> (16 &&& 31)) &&& 255))))] H := hP
  have hD : va_D A [(q_0, .inr (12, [.int x_1, .int x_2, .ref q_2, .ref q_3, .ref q_4, .int x_3, .ref q_5, .ref q_6, .ref q_7, .ref q_8, .ref q_1, .int 18, .int x_4, .int x_5, .int x_6, .long g_7, .int x_8, .int x_9, .int x_10, .ref q_9, .int x_11, .ref q_10, .ref q_11, .int x_12, .ref q_12, .ref q_13, .int x_13, .int x_14, .ref q_14, .ref q_15, .ref q_16, .ref q_17, .int x_15, .long g_16, .long g_17, .int x_18, .int x_19, .int x_20, .int x_21, .ref q_18, .ref q_19, .int x_22, .int x_23, .int x_24, .int x_25, .ref q_20, .ref q_21, .int x_26, .int x_27, .ref q_22, .ref q_23, .ref q_24, .ref q_25, .int x_28, .int x_29, .int x_30])), (q_1, .inl (k 0, 400, .inl (upd (upd f_0 16 ((x_0 >>> (24 &&& 31)) &&& 255)) 17 ((x_0 >>> (16 &&& 31)) &&& 255))))] := hD
  refine lv_iinc (v := 8) (lv' := [(2, .int 8), (0, .ref q_0), (1, .int x_0)]) hx hb dX12_four_33 hl (k := 0) rfl (by decide) (by decide) rfl (fun ls hl => ?_)
  refine lv_goto (tgt := 3) hx hb dX12_four_36 (by decide) ?_
  refine lv_iload_n hx hb dX12_four_3 rfl (lv_at hl 0 rfl) ?_
  refine lv_if_lt (tgt := 39) hx hb dX12_four_4 (by decide) (fun c3 => absurd c3 (by decide)) (fun _ => ?_)
  refine lv_aload_n hx hb dX12_four_7 rfl (lv_at hl 1 rfl) ?_
  refine va_get (D := D) (ci := 12) (v := .ref q_1) (C := RX12) (T := TX12) (N := 56) hx hb hts inX12 hown hK hP 0 rfl rfl 10 (by decide) (hts _ kF_X12_33) (fun _ h9 => h9) rfl dX12_four_8 ?_
  refine lv_aload_n hx hb dX12_four_11 rfl (lv_at hl 1 rfl) ?_
  refine va_get (D := D) (ci := 12) (v := .int 18) (C := RX12) (T := TX12) (N := 56) hx hb hts inX12 hown hK hP 0 rfl rfl 11 (by decide) (hts _ kF_X12_193) (fun _ h9 => h9) rfl dX12_four_12 ?_
  refine lv_iload_n hx hb dX12_four_15 rfl (lv_at hl 2 rfl) ?_
  refine lv_iload_n hx hb dX12_four_16 rfl (lv_at hl 0 rfl) ?_
  refine lv_ishr hx hb dX12_four_17 ?_
  refine lv_sipush (v := 255) hx hb dX12_four_18 (by decide) ?_
  refine lv_iand hx hb dX12_four_21 ?_
  refine va_iast hx hb hK hP hD hS 1 0 rfl rfl (by unfold vp_in; decide) dX12_four_22 (fun H locs hP hD hS => ?_)
  have hP : va_P D vwCl [(q_0, .inr (12, [.int x_1, .int x_2, .ref q_2, .ref q_3, .ref q_4, .int x_3, .ref q_5, .ref q_6, .ref q_7, .ref q_8, .ref q_1, .int 18, .int x_4, .int x_5, .int x_6, .long g_7, .int x_8, .int x_9, .int x_10, .ref q_9, .int x_11, .ref q_10, .ref q_11, .int x_12, .ref q_12, .ref q_13, .int x_13, .int x_14, .ref q_14, .ref q_15, .ref q_16, .ref q_17, .int x_15, .long g_16, .long g_17, .int x_18, .int x_19, .int x_20, .int x_21, .ref q_18, .ref q_19, .int x_22, .int x_23, .int x_24, .int x_25, .ref q_20, .ref q_21, .int x_26, .int x_27, .ref q_22, .ref q_23, .ref q_24, .ref q_25, .int x_28, .int x_29, .int x_30])), (q_1, .inl (k 0, 400, .inl (upd (upd (upd f_0 16 ((x_0 >>> (24 &&& 31)) &&& 255)) 17 ((x_0 >>> (16 &&& 31)) &&& 255)) 18 ((x_0 >>> (8 &&& 31)) &&& 255))))] H := hP
  have hD : va_D A [(q_0, .inr (12, [.int x_1, .int x_2, .ref q_2, .ref q_3, .ref q_4, .int x_3, .ref q_5, .ref q_6, .ref q_7, .ref q_8, .ref q_1, .int 18, .int x_4, .int x_5, .int x_6, .long g_7, .int x_8, .int x_9, .int x_10, .ref q_9, .int x_11, .ref q_10, .ref q_11, .int x_12, .ref q_12, .ref q_13, .int x_13, .int x_14, .ref q_14, .ref q_15, .ref q_16, .ref q_17, .int x_15, .long g_16, .long g_17, .int x_18, .int x_19, .int x_20, .int x_21, .ref q_18, .ref q_19, .int x_22, .int x_23, .int x_24, .int x_25, .ref q_20, .ref q_21, .int x_26, .int x_27, .ref q_22, .ref q_23, .ref q_24, .ref q_25, .int x_28, .int x_29, .int x_30])), (q_1, .inl (k 0, 400, .inl (upd (upd (upd f_0 16 ((x_0 >>> (24 &&& 31)) &&& 255)) 17 ((x_0 >>> (16 &&& 31)) &&& 255)) 18 ((x_0 >>> (8 &&& 31)) &&& 255))))] := hD
  refine lv_aload_n hx hb dX12_four_23 rfl (lv_at hl 1 rfl) ?_
  refine lv_dup hx hb dX12_four_24 rfl ?_
  refine va_get (D := D) (ci := 12) (v := .int 18) (C := RX12) (T := TX12) (N := 56) hx hb hts inX12 hown hK hP 0 rfl rfl 11 (by decide) (hts _ kF_X12_193) (fun _ h9 => h9) rfl dX12_four_25 ?_
  refine lv_iconst (v := 1) hx hb dX12_four_28 (by decide) ?_
  refine lv_iadd hx hb dX12_four_29 ?_
  refine lv_toc (v := 19) (by decide) ?_
  refine va_put (D := D) (ci := 12) (v := .int 19) (ty := .int) (C := RX12) (T := TX12) (N := 56) hx hb hts inX12 tyX12 tyX12_ok nmX12 hown hK hP hD hS 0 rfl rfl 11 (by decide) (hts _ kF_X12_193) (fun _ h9 => h9) rfl (by decide +kernel) rfl rfl (Nat.le_of_ble_eq_true rfl) dX12_four_30 (fun H locs hP hD hS => ?_)
  have hP : va_P D vwCl [(q_0, .inr (12, [.int x_1, .int x_2, .ref q_2, .ref q_3, .ref q_4, .int x_3, .ref q_5, .ref q_6, .ref q_7, .ref q_8, .ref q_1, .int 19, .int x_4, .int x_5, .int x_6, .long g_7, .int x_8, .int x_9, .int x_10, .ref q_9, .int x_11, .ref q_10, .ref q_11, .int x_12, .ref q_12, .ref q_13, .int x_13, .int x_14, .ref q_14, .ref q_15, .ref q_16, .ref q_17, .int x_15, .long g_16, .long g_17, .int x_18, .int x_19, .int x_20, .int x_21, .ref q_18, .ref q_19, .int x_22, .int x_23, .int x_24, .int x_25, .ref q_20, .ref q_21, .int x_26, .int x_27, .ref q_22, .ref q_23, .ref q_24, .ref q_25, .int x_28, .int x_29, .int x_30])), (q_1, .inl (k 0, 400, .inl (upd (upd (upd f_0 16 ((x_0 >>> (24 &&& 31)) &&& 255)) 17 ((x_0 >>> (16 &&& 31)) &&& 255)) 18 ((x_0 >>> (8 &&& 31)) &&& 255))))] H := hP
  have hD : va_D A [(q_0, .inr (12, [.int x_1, .int x_2, .ref q_2, .ref q_3, .ref q_4, .int x_3, .ref q_5, .ref q_6, .ref q_7, .ref q_8, .ref q_1, .int 19, .int x_4, .int x_5, .int x_6, .long g_7, .int x_8, .int x_9, .int x_10, .ref q_9, .int x_11, .ref q_10, .ref q_11, .int x_12, .ref q_12, .ref q_13, .int x_13, .int x_14, .ref q_14, .ref q_15, .ref q_16, .ref q_17, .int x_15, .long g_16, .long g_17, .int x_18, .int x_19, .int x_20, .int x_21, .ref q_18, .ref q_19, .int x_22, .int x_23, .int x_24, .int x_25, .ref q_20, .ref q_21, .int x_26, .int x_27, .ref q_22, .ref q_23, .ref q_24, .ref q_25, .int x_28, .int x_29, .int x_30])), (q_1, .inl (k 0, 400, .inl (upd (upd (upd f_0 16 ((x_0 >>> (24 &&& 31)) &&& 255)) 17 ((x_0 >>> (16 &&& 31)) &&& 255)) 18 ((x_0 >>> (8 &&& 31)) &&& 255))))] := hD
  refine lv_iinc (v := 0) (lv' := [(2, .int 0), (0, .ref q_0), (1, .int x_0)]) hx hb dX12_four_33 hl (k := 0) rfl (by decide) (by decide) rfl (fun ls hl => ?_)
  refine lv_goto (tgt := 3) hx hb dX12_four_36 (by decide) ?_
  refine lv_iload_n hx hb dX12_four_3 rfl (lv_at hl 0 rfl) ?_
  refine lv_if_lt (tgt := 39) hx hb dX12_four_4 (by decide) (fun c4 => absurd c4 (by decide)) (fun _ => ?_)
  refine lv_aload_n hx hb dX12_four_7 rfl (lv_at hl 1 rfl) ?_
  refine va_get (D := D) (ci := 12) (v := .ref q_1) (C := RX12) (T := TX12) (N := 56) hx hb hts inX12 hown hK hP 0 rfl rfl 10 (by decide) (hts _ kF_X12_33) (fun _ h9 => h9) rfl dX12_four_8 ?_
  refine lv_aload_n hx hb dX12_four_11 rfl (lv_at hl 1 rfl) ?_
  refine va_get (D := D) (ci := 12) (v := .int 19) (C := RX12) (T := TX12) (N := 56) hx hb hts inX12 hown hK hP 0 rfl rfl 11 (by decide) (hts _ kF_X12_193) (fun _ h9 => h9) rfl dX12_four_12 ?_
  refine lv_iload_n hx hb dX12_four_15 rfl (lv_at hl 2 rfl) ?_
  refine lv_iload_n hx hb dX12_four_16 rfl (lv_at hl 0 rfl) ?_
  refine lv_ishr hx hb dX12_four_17 ?_
  refine lv_sipush (v := 255) hx hb dX12_four_18 (by decide) ?_
  refine lv_iand hx hb dX12_four_21 ?_
  refine va_iast hx hb hK hP hD hS 1 0 rfl rfl (by unfold vp_in; decide) dX12_four_22 (fun H locs hP hD hS => ?_)
  have hP : va_P D vwCl [(q_0, .inr (12, [.int x_1, .int x_2, .ref q_2, .ref q_3, .ref q_4, .int x_3, .ref q_5, .ref q_6, .ref q_7, .ref q_8, .ref q_1, .int 19, .int x_4, .int x_5, .int x_6, .long g_7, .int x_8, .int x_9, .int x_10, .ref q_9, .int x_11, .ref q_10, .ref q_11, .int x_12, .ref q_12, .ref q_13, .int x_13, .int x_14, .ref q_14, .ref q_15, .ref q_16, .ref q_17, .int x_15, .long g_16, .long g_17, .int x_18, .int x_19, .int x_20, .int x_21, .ref q_18, .ref q_19, .int x_22, .int x_23, .int x_24, .int x_25, .ref q_20, .ref q_21, .int x_26, .int x_27, .ref q_22, .ref q_23, .ref q_24, .ref q_25, .int x_28, .int x_29, .int x_30])), (q_1, .inl (k 0, 400, .inl (upd (upd (upd (upd f_0 16 ((x_0 >>> (24 &&& 31)) &&& 255)) 17 ((x_0 >>> (16 &&& 31)) &&& 255)) 18 ((x_0 >>> (8 &&& 31)) &&& 255)) 19 ((x_0 >>> (0 &&& 31)) &&& 255))))] H := hP
  have hD : va_D A [(q_0, .inr (12, [.int x_1, .int x_2, .ref q_2, .ref q_3, .ref q_4, .int x_3, .ref q_5, .ref q_6, .ref q_7, .ref q_8, .ref q_1, .int 19, .int x_4, .int x_5, .int x_6, .long g_7, .int x_8, .int x_9, .int x_10, .ref q_9, .int x_11, .ref q_10, .ref q_11, .int x_12, .ref q_12, .ref q_13, .int x_13, .int x_14, .ref q_14, .ref q_15, .ref q_16, .ref q_17, .int x_15, .long g_16, .long g_17, .int x_18, .int x_19, .int x_20, .int x_21, .ref q_18, .ref q_19, .int x_22, .int x_23, .int x_24, .int x_25, .ref q_20, .ref q_21, .int x_26, .int x_27, .ref q_22, .ref q_23, .ref q_24, .ref q_25, .int x_28, .int x_29, .int x_30])), (q_1, .inl (k 0, 400, .inl (upd (upd (upd (upd f_0 16 ((x_0 >>> (24 &&& 31)) &&& 255)) 17 ((x_0 >>> (16 &&& 31)) &&& 255)) 18 ((x_0 >>> (8 &&& 31)) &&& 255)) 19 ((x_0 >>> (0 &&& 31)) &&& 255))))] := hD
  refine lv_aload_n hx hb dX12_four_23 rfl (lv_at hl 1 rfl) ?_
  refine lv_dup hx hb dX12_four_24 rfl ?_
  refine va_get (D := D) (ci := 12) (v := .int 19) (C := RX12) (T := TX12) (N := 56) hx hb hts inX12 hown hK hP 0 rfl rfl 11 (by decide) (hts _ kF_X12_193) (fun _ h9 => h9) rfl dX12_four_25 ?_
  refine lv_iconst (v := 1) hx hb dX12_four_28 (by decide) ?_
  refine lv_iadd hx hb dX12_four_29 ?_
  refine lv_toc (v := 20) (by decide) ?_
  refine va_put (D := D) (ci := 12) (v := .int 20) (ty := .int) (C := RX12) (T := TX12) (N := 56) hx hb hts inX12 tyX12 tyX12_ok nmX12 hown hK hP hD hS 0 rfl rfl 11 (by decide) (hts _ kF_X12_193) (fun _ h9 => h9) rfl (by decide +kernel) rfl rfl (Nat.le_of_ble_eq_true rfl) dX12_four_30 (fun H locs hP hD hS => ?_)
  have hP : va_P D vwCl [(q_0, .inr (12, [.int x_1, .int x_2, .ref q_2, .ref q_3, .ref q_4, .int x_3, .ref q_5, .ref q_6, .ref q_7, .ref q_8, .ref q_1, .int 20, .int x_4, .int x_5, .int x_6, .long g_7, .int x_8, .int x_9, .int x_10, .ref q_9, .int x_11, .ref q_10, .ref q_11, .int x_12, .ref q_12, .ref q_13, .int x_13, .int x_14, .ref q_14, .ref q_15, .ref q_16, .ref q_17, .int x_15, .long g_16, .long g_17, .int x_18, .int x_19, .int x_20, .int x_21, .ref q_18, .ref q_19, .int x_22, .int x_23, .int x_24, .int x_25, .ref q_20, .ref q_21, .int x_26, .int x_27, .ref q_22, .ref q_23, .ref q_24, .ref q_25, .int x_28, .int x_29, .int x_30])), (q_1, .inl (k 0, 400, .inl (upd (upd (upd (upd f_0 16 ((x_0 >>> (24 &&& 31)) &&& 255)) 17 ((x_0 >>> (16 &&& 31)) &&& 255)) 18 ((x_0 >>> (8 &&& 31)) &&& 255)) 19 ((x_0 >>> (0 &&& 31)) &&& 255))))] H := hP
  have hD : va_D A [(q_0, .inr (12, [.int x_1, .int x_2, .ref q_2, .ref q_3, .ref q_4, .int x_3, .ref q_5, .ref q_6, .ref q_7, .ref q_8, .ref q_1, .int 20, .int x_4, .int x_5, .int x_6, .long g_7, .int x_8, .int x_9, .int x_10, .ref q_9, .int x_11, .ref q_10, .ref q_11, .int x_12, .ref q_12, .ref q_13, .int x_13, .int x_14, .ref q_14, .ref q_15, .ref q_16, .ref q_17, .int x_15, .long g_16, .long g_17, .int x_18, .int x_19, .int x_20, .int x_21, .ref q_18, .ref q_19, .int x_22, .int x_23, .int x_24, .int x_25, .ref q_20, .ref q_21, .int x_26, .int x_27, .ref q_22, .ref q_23, .ref q_24, .ref q_25, .int x_28, .int x_29, .int x_30])), (q_1, .inl (k 0, 400, .inl (upd (upd (upd (upd f_0 16 ((x_0 >>> (24 &&& 31)) &&& 255)) 17 ((x_0 >>> (16 &&& 31)) &&& 255)) 18 ((x_0 >>> (8 &&& 31)) &&& 255)) 19 ((x_0 >>> (0 &&& 31)) &&& 255))))] := hD
  refine lv_iinc (v := (-8)) (lv' := [(2, .int (-8)), (0, .ref q_0), (1, .int x_0)]) hx hb dX12_four_33 hl (k := 0) rfl (by decide) (by decide) rfl (fun ls hl => ?_)
  refine lv_goto (tgt := 3) hx hb dX12_four_36 (by decide) ?_
  refine lv_iload_n hx hb dX12_four_3 rfl (lv_at hl 0 rfl) ?_
  refine lv_if_lt (tgt := 39) hx hb dX12_four_4 (by decide) (fun _ => ?_) (fun c5 => absurd (by decide) c5)
  exact z_vret C0 hr hlk hK hP hD hS (0, fun _ => 0) rfl [0, 1] rfl rfl rfl dX12_four_39

set_option maxHeartbeats 4000000 in
set_option maxRecDepth 100000 in
theorem c_X12_feed_1 (l : Launch) (D : va_G) (k : Nat → ClassId) (q_0 : Nat) (q_1 : Nat) (q_2 : Nat) (q_3 : Nat) (q_4 : Nat) (q_5 : Nat) (q_6 : Nat) (q_7 : Nat) (q_8 : Nat) (q_9 : Nat) (q_10 : Nat) (q_11 : Nat) (q_12 : Nat) (q_13 : Nat) (q_14 : Nat) (q_15 : Nat) (q_16 : Nat) (q_17 : Nat) (q_18 : Nat) (q_19 : Nat) (q_20 : Nat) (q_21 : Nat) (q_22 : Nat) (q_23 : Nat) (q_24 : Nat) (q_25 : Nat) (x_0 : Int32) (x_1 : Int32) (x_2 : Int32) (x_3 : Int32) (x_4 : Int32) (x_5 : Int32) (x_6 : Int32) (x_7 : Int32) (x_8 : Int32) (x_9 : Int32) (x_10 : Int32) (g_11 : Int64) (x_12 : Int32) (x_13 : Int32) (x_14 : Int32) (x_15 : Int32) (x_16 : Int32) (x_17 : Int32) (x_18 : Int32) (x_19 : Int32) (g_20 : Int64) (g_21 : Int64) (x_22 : Int32) (x_23 : Int32) (x_24 : Int32) (x_25 : Int32) (x_26 : Int32) (x_27 : Int32) (x_28 : Int32) (x_29 : Int32) (x_30 : Int32) (x_31 : Int32) (x_32 : Int32) (x_33 : Int32) (x_34 : Int32) (f_0 : Nat → Int32) : zMi l yX12_feed cX12_feed 6 (some .int) ({ frames := 1, cells := 0, slots := 0, locals := 22 }) D k [.ref q_0, .int x_0, .int x_1, .int x_2, .int x_3, .int x_4] [(q_0, .inr (12, [.int x_5, .int x_6, .ref q_2, .ref q_3, .ref q_4, .int x_7, .ref q_5, .ref q_6, .ref q_7, .ref q_8, .ref q_1, .int 0, .int x_8, .int x_9, .int x_10, .long g_11, .int x_12, .int x_13, .int x_14, .ref q_9, .int x_15, .ref q_10, .ref q_11, .int x_16, .ref q_12, .ref q_13, .int x_17, .int x_18, .ref q_14, .ref q_15, .ref q_16, .ref q_17, .int x_19, .long g_20, .long g_21, .int x_22, .int x_23, .int x_24, .int x_25, .ref q_18, .ref q_19, .int x_26, .int x_27, .int x_28, .int x_29, .ref q_20, .ref q_21, .int x_30, .int x_31, .ref q_22, .ref q_23, .ref q_24, .ref q_25, .int x_32, .int x_33, .int x_34])), (q_1, .inl (k 0, 400, .inl f_0))] (fun r u => u.1 = 0 ∧ r = 20) (fun u => []) := by
  refine zMi_of (own := RX12) (by decide +kernel) rfl (Nat.le_of_ble_eq_true rfl) ?_
  intro p e s m args below meth c A ls C0 hr hlk hin hP hD hS hA hK hN hl
  have hx := C0.1
  have hb := C0.2.1
  have hml := C0.2.2.1
  have hown := C0.2.2.2.1
  have hts := C0.2.2.2.2
  have hl : lv_has ls 6 [(0, .ref q_0), (1, .int x_0), (2, .int x_1), (3, .int x_2), (4, .int x_3), (5, .int x_4)] := hl
  have hP : va_P D vwCl [(q_0, .inr (12, [.int x_5, .int x_6, .ref q_2, .ref q_3, .ref q_4, .int x_7, .ref q_5, .ref q_6, .ref q_7, .ref q_8, .ref q_1, .int 0, .int x_8, .int x_9, .int x_10, .long g_11, .int x_12, .int x_13, .int x_14, .ref q_9, .int x_15, .ref q_10, .ref q_11, .int x_16, .ref q_12, .ref q_13, .int x_17, .int x_18, .ref q_14, .ref q_15, .ref q_16, .ref q_17, .int x_19, .long g_20, .long g_21, .int x_22, .int x_23, .int x_24, .int x_25, .ref q_18, .ref q_19, .int x_26, .int x_27, .int x_28, .int x_29, .ref q_20, .ref q_21, .int x_30, .int x_31, .ref q_22, .ref q_23, .ref q_24, .ref q_25, .int x_32, .int x_33, .int x_34])), (q_1, .inl (k 0, 400, .inl f_0))] s.heap := hP
  refine lv_aload_n hx hb dX12_feed_0 rfl (lv_at hl 0 rfl) ?_
  refine lv_iconst (v := 0) hx hb dX12_feed_1 (by decide) ?_
  refine va_put (D := D) (ci := 12) (v := .int 0) (ty := .int) (C := RX12) (T := TX12) (N := 56) hx hb hts inX12 tyX12 tyX12_ok nmX12 hown hK hP hD hS 0 rfl rfl 0 (by decide) (hts _ kF_X12_92) (fun _ h9 => h9) rfl (by decide +kernel) rfl rfl (Nat.le_of_ble_eq_true rfl) dX12_feed_2 (fun H locs hP hD hS => ?_)
  have hP : va_P D vwCl [(q_0, .inr (12, [.int 0, .int x_6, .ref q_2, .ref q_3, .ref q_4, .int x_7, .ref q_5, .ref q_6, .ref q_7, .ref q_8, .ref q_1, .int 0, .int x_8, .int x_9, .int x_10, .long g_11, .int x_12, .int x_13, .int x_14, .ref q_9, .int x_15, .ref q_10, .ref q_11, .int x_16, .ref q_12, .ref q_13, .int x_17, .int x_18, .ref q_14, .ref q_15, .ref q_16, .ref q_17, .int x_19, .long g_20, .long g_21, .int x_22, .int x_23, .int x_24, .int x_25, .ref q_18, .ref q_19, .int x_26, .int x_27, .int x_28, .int x_29, .ref q_20, .ref q_21, .int x_30, .int x_31, .ref q_22, .ref q_23, .ref q_24, .ref q_25, .int x_32, .int x_33, .int x_34])), (q_1, .inl (k 0, 400, .inl f_0))] H := hP
  have hD : va_D A [(q_0, .inr (12, [.int 0, .int x_6, .ref q_2, .ref q_3, .ref q_4, .int x_7, .ref q_5, .ref q_6, .ref q_7, .ref q_8, .ref q_1, .int 0, .int x_8, .int x_9, .int x_10, .long g_11, .int x_12, .int x_13, .int x_14, .ref q_9, .int x_15, .ref q_10, .ref q_11, .int x_16, .ref q_12, .ref q_13, .int x_17, .int x_18, .ref q_14, .ref q_15, .ref q_16, .ref q_17, .int x_19, .long g_20, .long g_21, .int x_22, .int x_23, .int x_24, .int x_25, .ref q_18, .ref q_19, .int x_26, .int x_27, .int x_28, .int x_29, .ref q_20, .ref q_21, .int x_30, .int x_31, .ref q_22, .ref q_23, .ref q_24, .ref q_25, .int x_32, .int x_33, .int x_34])), (q_1, .inl (k 0, 400, .inl f_0))] := hD
  refine lv_aload_n hx hb dX12_feed_5 rfl (lv_at hl 0 rfl) ?_
  refine va_get (D := D) (ci := 12) (v := .int 0) (C := RX12) (T := TX12) (N := 56) hx hb hts inX12 hown hK hP 0 rfl rfl 11 (by decide) (hts _ kF_X12_193) (fun _ h9 => h9) rfl dX12_feed_6 ?_
  refine lv_bipush (v := 20) hx hb dX12_feed_9 (by decide) ?_
  refine lv_iadd hx hb dX12_feed_11 ?_
  refine lv_toc (v := 20) (by decide) ?_
  refine lv_sipush (v := 400) hx hb dX12_feed_12 (by decide) ?_
  refine lv_icmp_le (tgt := 20) hx hb dX12_feed_15 (by decide) (fun _ => ?_) (fun c1 => absurd (by decide) c1)
  refine lv_aload_n hx hb dX12_feed_20 rfl (lv_at hl 0 rfl) ?_
  refine lv_iload_n hx hb dX12_feed_21 rfl (lv_at hl 1 rfl) ?_
  refine z_bv (wr := []) (z_runV (C := RX12) (As := [.int x_0]) (rest := []) C0 (c_X12_four_1 l D k q_0 q_1 q_2 q_3 q_4 q_5 q_6 q_7 q_8 q_9 q_10 q_11 q_12 q_13 q_14 q_15 q_16 q_17 q_18 q_19 q_20 q_21 q_22 q_23 q_24 q_25 x_0 0 x_6 x_7 x_8 x_9 x_10 g_11 x_12 x_13 x_14 x_15 x_16 x_17 x_18 x_19 g_20 g_21 x_22 x_23 x_24 x_25 x_26 x_27 x_28 x_29 x_30 x_31 x_32 x_33 x_34 f_0 _) okV_X12_four kM_X12_196 rfl (z_pV (q0 := 0) hK hN hP hD [0, 1] rfl rfl rfl rfl rfl) rfl hl.1 rfl (Nat.le_of_ble_eq_true rfl) dX12_feed_22 rfl) hP hD hS hA [0, 1] [] rfl rfl rfl rfl (fun u2 H locs hw2 hP hD hS => ?_)
  obtain ⟨i2, a2⟩ := u2
  dsimp only at hw2
  obtain rfl := hw2
  have hP : va_P D vwCl [(q_0, .inr (12, [.int 0, .int x_6, .ref q_2, .ref q_3, .ref q_4, .int x_7, .ref q_5, .ref q_6, .ref q_7, .ref q_8, .ref q_1, .int 4, .int x_8, .int x_9, .int x_10, .long g_11, .int x_12, .int x_13, .int x_14, .ref q_9, .int x_15, .ref q_10, .ref q_11, .int x_16, .ref q_12, .ref q_13, .int x_17, .int x_18, .ref q_14, .ref q_15, .ref q_16, .ref q_17, .int x_19, .long g_20, .long g_21, .int x_22, .int x_23, .int x_24, .int x_25, .ref q_18, .ref q_19, .int x_26, .int x_27, .int x_28, .int x_29, .ref q_20, .ref q_21, .int x_30, .int x_31, .ref q_22, .ref q_23, .ref q_24, .ref q_25, .int x_32, .int x_33, .int x_34])), (q_1, .inl (k 0, 400, .inl (upd (upd (upd (upd f_0 0 ((x_0 >>> (24 &&& 31)) &&& 255)) 1 ((x_0 >>> (16 &&& 31)) &&& 255)) 2 ((x_0 >>> (8 &&& 31)) &&& 255)) 3 ((x_0 >>> (0 &&& 31)) &&& 255))))] H := hP
  have hD : va_D A [(q_0, .inr (12, [.int 0, .int x_6, .ref q_2, .ref q_3, .ref q_4, .int x_7, .ref q_5, .ref q_6, .ref q_7, .ref q_8, .ref q_1, .int 4, .int x_8, .int x_9, .int x_10, .long g_11, .int x_12, .int x_13, .int x_14, .ref q_9, .int x_15, .ref q_10, .ref q_11, .int x_16, .ref q_12, .ref q_13, .int x_17, .int x_18, .ref q_14, .ref q_15, .ref q_16, .ref q_17, .int x_19, .long g_20, .long g_21, .int x_22, .int x_23, .int x_24, .int x_25, .ref q_18, .ref q_19, .int x_26, .int x_27, .int x_28, .int x_29, .ref q_20, .ref q_21, .int x_30, .int x_31, .ref q_22, .ref q_23, .ref q_24, .ref q_25, .int x_32, .int x_33, .int x_34])), (q_1, .inl (k 0, 400, .inl (upd (upd (upd (upd f_0 0 ((x_0 >>> (24 &&& 31)) &&& 255)) 1 ((x_0 >>> (16 &&& 31)) &&& 255)) 2 ((x_0 >>> (8 &&& 31)) &&& 255)) 3 ((x_0 >>> (0 &&& 31)) &&& 255))))] := hD
  refine lv_aload_n hx hb dX12_feed_25 rfl (lv_at hl 0 rfl) ?_
  refine lv_iload_n hx hb dX12_feed_26 rfl (lv_at hl 2 rfl) ?_
  refine z_bv (wr := []) (z_runV (C := RX12) (As := [.int x_1]) (rest := []) C0 (c_X12_four_2 l D k q_0 q_1 q_2 q_3 q_4 q_5 q_6 q_7 q_8 q_9 q_10 q_11 q_12 q_13 q_14 q_15 q_16 q_17 q_18 q_19 q_20 q_21 q_22 q_23 q_24 q_25 x_1 0 x_6 x_7 x_8 x_9 x_10 g_11 x_12 x_13 x_14 x_15 x_16 x_17 x_18 x_19 g_20 g_21 x_22 x_23 x_24 x_25 x_26 x_27 x_28 x_29 x_30 x_31 x_32 x_33 x_34 (upd (upd (upd (upd f_0 0 ((x_0 >>> (24 &&& 31)) &&& 255)) 1 ((x_0 >>> (16 &&& 31)) &&& 255)) 2 ((x_0 >>> (8 &&& 31)) &&& 255)) 3 ((x_0 >>> (0 &&& 31)) &&& 255)) _) okV_X12_four kM_X12_196 rfl (z_pV (q0 := 0) hK hN hP hD [0, 1] rfl rfl rfl rfl rfl) rfl hl.1 rfl (Nat.le_of_ble_eq_true rfl) dX12_feed_27 rfl) hP hD hS hA [0, 1] [] rfl rfl rfl rfl (fun u3 H locs hw3 hP hD hS => ?_)
  obtain ⟨i3, a3⟩ := u3
  dsimp only at hw3
  obtain rfl := hw3
  have hP : va_P D vwCl [(q_0, .inr (12, [.int 0, .int x_6, .ref q_2, .ref q_3, .ref q_4, .int x_7, .ref q_5, .ref q_6, .ref q_7, .ref q_8, .ref q_1, .int 8, .int x_8, .int x_9, .int x_10, .long g_11, .int x_12, .int x_13, .int x_14, .ref q_9, .int x_15, .ref q_10, .ref q_11, .int x_16, .ref q_12, .ref q_13, .int x_17, .int x_18, .ref q_14, .ref q_15, .ref q_16, .ref q_17, .int x_19, .long g_20, .long g_21, .int x_22, .int x_23, .int x_24, .int x_25, .ref q_18, .ref q_19, .int x_26, .int x_27, .int x_28, .int x_29, .ref q_20, .ref q_21, .int x_30, .int x_31, .ref q_22, .ref q_23, .ref q_24, .ref q_25, .int x_32, .int x_33, .int x_34])), (q_1, .inl (k 0, 400, .inl (upd (upd (upd (upd (upd (upd (upd (upd f_0 0 ((x_0 >>> (24 &&& 31)) &&& 255)) 1 ((x_0 >>> (16 &&& 31)) &&& 255)) 2 ((x_0 >>> (8 &&& 31)) &&& 255)) 3 ((x_0 >>> (0 &&& 31)) &&& 255)) 4 ((x_1 >>> (24 &&& 31)) &&& 255)) 5 ((x_1 >>> (16 &&& 31)) &&& 255)) 6 ((x_1 >>> (8 &&& 31)) &&& 255)) 7 ((x_1 >>> (0 &&& 31)) &&& 255))))] H := hP
  have hD : va_D A [(q_0, .inr (12, [.int 0, .int x_6, .ref q_2, .ref q_3, .ref q_4, .int x_7, .ref q_5, .ref q_6, .ref q_7, .ref q_8, .ref q_1, .int 8, .int x_8, .int x_9, .int x_10, .long g_11, .int x_12, .int x_13, .int x_14, .ref q_9, .int x_15, .ref q_10, .ref q_11, .int x_16, .ref q_12, .ref q_13, .int x_17, .int x_18, .ref q_14, .ref q_15, .ref q_16, .ref q_17, .int x_19, .long g_20, .long g_21, .int x_22, .int x_23, .int x_24, .int x_25, .ref q_18, .ref q_19, .int x_26, .int x_27, .int x_28, .int x_29, .ref q_20, .ref q_21, .int x_30, .int x_31, .ref q_22, .ref q_23, .ref q_24, .ref q_25, .int x_32, .int x_33, .int x_34])), (q_1, .inl (k 0, 400, .inl (upd (upd (upd (upd (upd (upd (upd (upd f_0 0 ((x_0 >>> (24 &&& 31)) &&& 255)) 1 ((x_0 >>> (16 &&& 31)) &&& 255)) 2 ((x_0 >>> (8 &&& 31)) &&& 255)) 3 ((x_0 >>> (0 &&& 31)) &&& 255)) 4 ((x_1 >>> (24 &&& 31)) &&& 255)) 5 ((x_1 >>> (16 &&& 31)) &&& 255)) 6 ((x_1 >>> (8 &&& 31)) &&& 255)) 7 ((x_1 >>> (0 &&& 31)) &&& 255))))] := hD
  refine lv_aload_n hx hb dX12_feed_30 rfl (lv_at hl 0 rfl) ?_
  refine lv_iload_n hx hb dX12_feed_31 rfl (lv_at hl 3 rfl) ?_
  refine z_bv (wr := []) (z_runV (C := RX12) (As := [.int x_2]) (rest := []) C0 (c_X12_four_3 l D k q_0 q_1 q_2 q_3 q_4 q_5 q_6 q_7 q_8 q_9 q_10 q_11 q_12 q_13 q_14 q_15 q_16 q_17 q_18 q_19 q_20 q_21 q_22 q_23 q_24 q_25 x_2 0 x_6 x_7 x_8 x_9 x_10 g_11 x_12 x_13 x_14 x_15 x_16 x_17 x_18 x_19 g_20 g_21 x_22 x_23 x_24 x_25 x_26 x_27 x_28 x_29 x_30 x_31 x_32 x_33 x_34 (upd (upd (upd (upd (upd (upd (upd (upd f_0 0 ((x_0 >>> (24 &&& 31)) &&& 255)) 1 ((x_0 >>> (16 &&& 31)) &&& 255)) 2 ((x_0 >>> (8 &&& 31)) &&& 255)) 3 ((x_0 >>> (0 &&& 31)) &&& 255)) 4 ((x_1 >>> (24 &&& 31)) &&& 255)) 5 ((x_1 >>> (16 &&& 31)) &&& 255)) 6 ((x_1 >>> (8 &&& 31)) &&& 255)) 7 ((x_1 >>> (0 &&& 31)) &&& 255)) _) okV_X12_four kM_X12_196 rfl (z_pV (q0 := 0) hK hN hP hD [0, 1] rfl rfl rfl rfl rfl) rfl hl.1 rfl (Nat.le_of_ble_eq_true rfl) dX12_feed_32 rfl) hP hD hS hA [0, 1] [] rfl rfl rfl rfl (fun u4 H locs hw4 hP hD hS => ?_)
  obtain ⟨i4, a4⟩ := u4
  dsimp only at hw4
  obtain rfl := hw4
  have hP : va_P D vwCl [(q_0, .inr (12, [.int 0, .int x_6, .ref q_2, .ref q_3, .ref q_4, .int x_7, .ref q_5, .ref q_6, .ref q_7, .ref q_8, .ref q_1, .int 12, .int x_8, .int x_9, .int x_10, .long g_11, .int x_12, .int x_13, .int x_14, .ref q_9, .int x_15, .ref q_10, .ref q_11, .int x_16, .ref q_12, .ref q_13, .int x_17, .int x_18, .ref q_14, .ref q_15, .ref q_16, .ref q_17, .int x_19, .long g_20, .long g_21, .int x_22, .int x_23, .int x_24, .int x_25, .ref q_18, .ref q_19, .int x_26, .int x_27, .int x_28, .int x_29, .ref q_20, .ref q_21, .int x_30, .int x_31, .ref q_22, .ref q_23, .ref q_24, .ref q_25, .int x_32, .int x_33, .int x_34])), (q_1, .inl (k 0, 400, .inl (upd (upd (upd (upd (upd (upd (upd (upd (upd (upd (upd (upd f_0 0 ((x_0 >>> (24 &&& 31)) &&& 255)) 1 ((x_0 >>> (16 &&& 31)) &&& 255)) 2 ((x_0 >>> (8 &&& 31)) &&& 255)) 3 ((x_0 >>> (0 &&& 31)) &&& 255)) 4 ((x_1 >>> (24 &&& 31)) &&& 255)) 5 ((x_1 >>> (16 &&& 31)) &&& 255)) 6 ((x_1 >>> (8 &&& 31)) &&& 255)) 7 ((x_1 >>> (0 &&& 31)) &&& 255)) 8 ((x_2 >>> (24 &&& 31)) &&& 255)) 9 ((x_2 >>> (16 &&& 31)) &&& 255)) 10 ((x_2 >>> (8 &&& 31)) &&& 255)) 11 ((x_2 >>> (0 &&& 31)) &&& 255))))] H := hP
  have hD : va_D A [(q_0, .inr (12, [.int 0, .int x_6, .ref q_2, .ref q_3, .ref q_4, .int x_7, .ref q_5, .ref q_6, .ref q_7, .ref q_8, .ref q_1, .int 12, .int x_8, .int x_9, .int x_10, .long g_11, .int x_12, .int x_13, .int x_14, .ref q_9, .int x_15, .ref q_10, .ref q_11, .int x_16, .ref q_12, .ref q_13, .int x_17, .int x_18, .ref q_14, .ref q_15, .ref q_16, .ref q_17, .int x_19, .long g_20, .long g_21, .int x_22, .int x_23, .int x_24, .int x_25, .ref q_18, .ref q_19, .int x_26, .int x_27, .int x_28, .int x_29, .ref q_20, .ref q_21, .int x_30, .int x_31, .ref q_22, .ref q_23, .ref q_24, .ref q_25, .int x_32, .int x_33, .int x_34])), (q_1, .inl (k 0, 400, .inl (upd (upd (upd (upd (upd (upd (upd (upd (upd (upd (upd (upd f_0 0 ((x_0 >>> (24 &&& 31)) &&& 255)) 1 ((x_0 >>> (16 &&& 31)) &&& 255)) 2 ((x_0 >>> (8 &&& 31)) &&& 255)) 3 ((x_0 >>> (0 &&& 31)) &&& 255)) 4 ((x_1 >>> (24 &&& 31)) &&& 255)) 5 ((x_1 >>> (16 &&& 31)) &&& 255)) 6 ((x_1 >>> (8 &&& 31)) &&& 255)) 7 ((x_1 >>> (0 &&& 31)) &&& 255)) 8 ((x_2 >>> (24 &&& 31)) &&& 255)) 9 ((x_2 >>> (16 &&& 31)) &&& 255)) 10 ((x_2 >>> (8 &&& 31)) &&& 255)) 11 ((x_2 >>> (0 &&& 31)) &&& 255))))] := hD
  refine lv_aload_n hx hb dX12_feed_35 rfl (lv_at hl 0 rfl) ?_
  refine lv_iload hx hb dX12_feed_36 (lv_at hl 4 rfl) ?_
  refine z_bv (wr := []) (z_runV (C := RX12) (As := [.int x_3]) (rest := []) C0 (c_X12_four_4 l D k q_0 q_1 q_2 q_3 q_4 q_5 q_6 q_7 q_8 q_9 q_10 q_11 q_12 q_13 q_14 q_15 q_16 q_17 q_18 q_19 q_20 q_21 q_22 q_23 q_24 q_25 x_3 0 x_6 x_7 x_8 x_9 x_10 g_11 x_12 x_13 x_14 x_15 x_16 x_17 x_18 x_19 g_20 g_21 x_22 x_23 x_24 x_25 x_26 x_27 x_28 x_29 x_30 x_31 x_32 x_33 x_34 (upd (upd (upd (upd (upd (upd (upd (upd (upd (upd (upd (upd f_0 0 ((x_0 >>> (24 &&& 31)) &&& 255)) 1 ((x_0 >>> (16 &&& 31)) &&& 255)) 2 ((x_0 >>> (8 &&& 31)) &&& 255)) 3 ((x_0 >>> (0 &&& 31)) &&& 255)) 4 ((x_1 >>> (24 &&& 31)) &&& 255)) 5 ((x_1 >>> (16 &&& 31)) &&& 255)) 6 ((x_1 >>> (8 &&& 31)) &&& 255)) 7 ((x_1 >>> (0 &&& 31)) &&& 255)) 8 ((x_2 >>> (24 &&& 31)) &&& 255)) 9 ((x_2 >>> (16 &&& 31)) &&& 255)) 10 ((x_2 >>> (8 &&& 31)) &&& 255)) 11 ((x_2 >>> (0 &&& 31)) &&& 255)) _) okV_X12_four kM_X12_196 rfl (z_pV (q0 := 0) hK hN hP hD [0, 1] rfl rfl rfl rfl rfl) rfl hl.1 rfl (Nat.le_of_ble_eq_true rfl) dX12_feed_38 rfl) hP hD hS hA [0, 1] [] rfl rfl rfl rfl (fun u5 H locs hw5 hP hD hS => ?_)
  obtain ⟨i5, a5⟩ := u5
  dsimp only at hw5
  obtain rfl := hw5
  have hP : va_P D vwCl [(q_0, .inr (12, [.int 0, .int x_6, .ref q_2, .ref q_3, .ref q_4, .int x_7, .ref q_5, .ref q_6, .ref q_7, .ref q_8, .ref q_1, .int 16, .int x_8, .int x_9, .int x_10, .long g_11, .int x_12, .int x_13, .int x_14, .ref q_9, .int x_15, .ref q_10, .ref q_11, .int x_16, .ref q_12, .ref q_13, .int x_17, .int x_18, .ref q_14, .ref q_15, .ref q_16, .ref q_17, .int x_19, .long g_20, .long g_21, .int x_22, .int x_23, .int x_24, .int x_25, .ref q_18, .ref q_19, .int x_26, .int x_27, .int x_28, .int x_29, .ref q_20, .ref q_21, .int x_30, .int x_31, .ref q_22, .ref q_23, .ref q_24, .ref q_25, .int x_32, .int x_33, .int x_34])), (q_1, .inl (k 0, 400, .inl (upd (upd (upd (upd (upd (upd (upd (upd (upd (upd (upd (upd (upd (upd (upd (upd f_0 0 ((x_0 >>> (24 &&& 31)) &&& 255)) 1 ((x_0 >>> (16 &&& 31)) &&& 255)) 2 ((x_0 >>> (8 &&& 31)) &&& 255)) 3 ((x_0 >>> (0 &&& 31)) &&& 255)) 4 ((x_1 >>> (24 &&& 31)) &&& 255)) 5 ((x_1 >>> (16 &&& 31)) &&& 255)) 6 ((x_1 >>> (8 &&& 31)) &&& 255)) 7 ((x_1 >>> (0 &&& 31)) &&& 255)) 8 ((x_2 >>> (24 &&& 31)) &&& 255)) 9 ((x_2 >>> (16 &&& 31)) &&& 255)) 10 ((x_2 >>> (8 &&& 31)) &&& 255)) 11 ((x_2 >>> (0 &&& 31)) &&& 255)) 12 ((x_3 >>> (24 &&& 31)) &&& 255)) 13 ((x_3 >>> (16 &&& 31)) &&& 255)) 14 ((x_3 >>> (8 &&& 31)) &&& 255)) 15 ((x_3 >>> (0 &&& 31)) &&& 255))))] H := hP
  have hD : va_D A [(q_0, .inr (12, [.int 0, .int x_6, .ref q_2, .ref q_3, .ref q_4, .int x_7, .ref q_5, .ref q_6, .ref q_7, .ref q_8, .ref q_1, .int 16, .int x_8, .int x_9, .int x_10, .long g_11, .int x_12, .int x_13, .int x_14, .ref q_9, .int x_15, .ref q_10, .ref q_11, .int x_16, .ref q_12, .ref q_13, .int x_17, .int x_18, .ref q_14, .ref q_15, .ref q_16, .ref q_17, .int x_19, .long g_20, .long g_21, .int x_22, .int x_23, .int x_24, .int x_25, .ref q_18, .ref q_19, .int x_26, .int x_27, .int x_28, .int x_29, .ref q_20, .ref q_21, .int x_30, .int x_31, .ref q_22, .ref q_23, .ref q_24, .ref q_25, .int x_32, .int x_33, .int x_34])), (q_1, .inl (k 0, 400, .inl (upd (upd (upd (upd (upd (upd (upd (upd (upd (upd (upd (upd (upd (upd (upd (upd f_0 0 ((x_0 >>> (24 &&& 31)) &&& 255)) 1 ((x_0 >>> (16 &&& 31)) &&& 255)) 2 ((x_0 >>> (8 &&& 31)) &&& 255)) 3 ((x_0 >>> (0 &&& 31)) &&& 255)) 4 ((x_1 >>> (24 &&& 31)) &&& 255)) 5 ((x_1 >>> (16 &&& 31)) &&& 255)) 6 ((x_1 >>> (8 &&& 31)) &&& 255)) 7 ((x_1 >>> (0 &&& 31)) &&& 255)) 8 ((x_2 >>> (24 &&& 31)) &&& 255)) 9 ((x_2 >>> (16 &&& 31)) &&& 255)) 10 ((x_2 >>> (8 &&& 31)) &&& 255)) 11 ((x_2 >>> (0 &&& 31)) &&& 255)) 12 ((x_3 >>> (24 &&& 31)) &&& 255)) 13 ((x_3 >>> (16 &&& 31)) &&& 255)) 14 ((x_3 >>> (8 &&& 31)) &&& 255)) 15 ((x_3 >>> (0 &&& 31)) &&& 255))))] := hD
  refine lv_aload_n hx hb dX12_feed_41 rfl (lv_at hl 0 rfl) ?_
  refine lv_iload hx hb dX12_feed_42 (lv_at hl 5 rfl) ?_
  refine z_bv (wr := []) (z_runV (C := RX12) (As := [.int x_4]) (rest := []) C0 (c_X12_four_5 l D k q_0 q_1 q_2 q_3 q_4 q_5 q_6 q_7 q_8 q_9 q_10 q_11 q_12 q_13 q_14 q_15 q_16 q_17 q_18 q_19 q_20 q_21 q_22 q_23 q_24 q_25 x_4 0 x_6 x_7 x_8 x_9 x_10 g_11 x_12 x_13 x_14 x_15 x_16 x_17 x_18 x_19 g_20 g_21 x_22 x_23 x_24 x_25 x_26 x_27 x_28 x_29 x_30 x_31 x_32 x_33 x_34 (upd (upd (upd (upd (upd (upd (upd (upd (upd (upd (upd (upd (upd (upd (upd (upd f_0 0 ((x_0 >>> (24 &&& 31)) &&& 255)) 1 ((x_0 >>> (16 &&& 31)) &&& 255)) 2 ((x_0 >>> (8 &&& 31)) &&& 255)) 3 ((x_0 >>> (0 &&& 31)) &&& 255)) 4 ((x_1 >>> (24 &&& 31)) &&& 255)) 5 ((x_1 >>> (16 &&& 31)) &&& 255)) 6 ((x_1 >>> (8 &&& 31)) &&& 255)) 7 ((x_1 >>> (0 &&& 31)) &&& 255)) 8 ((x_2 >>> (24 &&& 31)) &&& 255)) 9 ((x_2 >>> (16 &&& 31)) &&& 255)) 10 ((x_2 >>> (8 &&& 31)) &&& 255)) 11 ((x_2 >>> (0 &&& 31)) &&& 255)) 12 ((x_3 >>> (24 &&& 31)) &&& 255)) 13 ((x_3 >>> (16 &&& 31)) &&& 255)) 14 ((x_3 >>> (8 &&& 31)) &&& 255)) 15 ((x_3 >>> (0 &&& 31)) &&& 255)) _) okV_X12_four kM_X12_196 rfl (z_pV (q0 := 0) hK hN hP hD [0, 1] rfl rfl rfl rfl rfl) rfl hl.1 rfl (Nat.le_of_ble_eq_true rfl) dX12_feed_44 rfl) hP hD hS hA [0, 1] [] rfl rfl rfl rfl (fun u6 H locs hw6 hP hD hS => ?_)
  obtain ⟨i6, a6⟩ := u6
  dsimp only at hw6
  obtain rfl := hw6
  have hP : va_P D vwCl [(q_0, .inr (12, [.int 0, .int x_6, .ref q_2, .ref q_3, .ref q_4, .int x_7, .ref q_5, .ref q_6, .ref q_7, .ref q_8, .ref q_1, .int 20, .int x_8, .int x_9, .int x_10, .long g_11, .int x_12, .int x_13, .int x_14, .ref q_9, .int x_15, .ref q_10, .ref q_11, .int x_16, .ref q_12, .ref q_13, .int x_17, .int x_18, .ref q_14, .ref q_15, .ref q_16, .ref q_17, .int x_19, .long g_20, .long g_21, .int x_22, .int x_23, .int x_24, .int x_25, .ref q_18, .ref q_19, .int x_26, .int x_27, .int x_28, .int x_29, .ref q_20, .ref q_21, .int x_30, .int x_31, .ref q_22, .ref q_23, .ref q_24, .ref q_25, .int x_32, .int x_33, .int x_34])), (q_1, .inl (k 0, 400, .inl (upd (upd (upd (upd (upd (upd (upd (upd (upd (upd (upd (upd (upd (upd (upd (upd (upd (upd (upd (upd f_0 0 ((x_0 >>> (24 &&& 31)) &&& 255)) 1 ((x_0 >>> (16 &&& 31)) &&& 255)) 2 ((x_0 >>> (8 &&& 31)) &&& 255)) 3 ((x_0 >>> (0 &&& 31)) &&& 255)) 4 ((x_1 >>> (24 &&& 31)) &&& 255)) 5 ((x_1 >>> (16 &&& 31)) &&& 255)) 6 ((x_1 >>> (8 &&& 31)) &&& 255)) 7 ((x_1 >>> (0 &&& 31)) &&& 255)) 8 ((x_2 >>> (24 &&& 31)) &&& 255)) 9 ((x_2 >>> (16 &&& 31)) &&& 255)) 10 ((x_2 >>> (8 &&& 31)) &&& 255)) 11 ((x_2 >>> (0 &&& 31)) &&& 255)) 12 ((x_3 >>> (24 &&& 31)) &&& 255)) 13 ((x_3 >>> (16 &&& 31)) &&& 255)) 14 ((x_3 >>> (8 &&& 31)) &&& 255)) 15 ((x_3 >>> (0 &&& 31)) &&& 255)) 16 ((x_4 >>> (24 &&& 31)) &&& 255)) 17 ((x_4 >>> (16 &&& 31)) &&& 255)) 18 ((x_4 >>> (8 &&& 31)) &&& 255)) 19 ((x_4 >>> (0 &&& 31)) &&& 255))))] H := hP
  have hD : va_D A [(q_0, .inr (12, [.int 0, .int x_6, .ref q_2, .ref q_3, .ref q_4, .int x_7, .ref q_5, .ref q_6, .ref q_7, .ref q_8, .ref q_1, .int 20, .int x_8, .int x_9, .int x_10, .long g_11, .int x_12, .int x_13, .int x_14, .ref q_9, .int x_15, .ref q_10, .ref q_11, .int x_16, .ref q_12, .ref q_13, .int x_17, .int x_18, .ref q_14, .ref q_15, .ref q_16, .ref q_17, .int x_19, .long g_20, .long g_21, .int x_22, .int x_23, .int x_24, .int x_25, .ref q_18, .ref q_19, .int x_26, .int x_27, .int x_28, .int x_29, .ref q_20, .ref q_21, .int x_30, .int x_31, .ref q_22, .ref q_23, .ref q_24, .ref q_25, .int x_32, .int x_33, .int x_34])), (q_1, .inl (k 0, 400, .inl (upd (upd (upd (upd (upd (upd (upd (upd (upd (upd (upd (upd (upd (upd (upd (upd (upd (upd (upd (upd f_0 0 ((x_0 >>> (24 &&& 31)) &&& 255)) 1 ((x_0 >>> (16 &&& 31)) &&& 255)) 2 ((x_0 >>> (8 &&& 31)) &&& 255)) 3 ((x_0 >>> (0 &&& 31)) &&& 255)) 4 ((x_1 >>> (24 &&& 31)) &&& 255)) 5 ((x_1 >>> (16 &&& 31)) &&& 255)) 6 ((x_1 >>> (8 &&& 31)) &&& 255)) 7 ((x_1 >>> (0 &&& 31)) &&& 255)) 8 ((x_2 >>> (24 &&& 31)) &&& 255)) 9 ((x_2 >>> (16 &&& 31)) &&& 255)) 10 ((x_2 >>> (8 &&& 31)) &&& 255)) 11 ((x_2 >>> (0 &&& 31)) &&& 255)) 12 ((x_3 >>> (24 &&& 31)) &&& 255)) 13 ((x_3 >>> (16 &&& 31)) &&& 255)) 14 ((x_3 >>> (8 &&& 31)) &&& 255)) 15 ((x_3 >>> (0 &&& 31)) &&& 255)) 16 ((x_4 >>> (24 &&& 31)) &&& 255)) 17 ((x_4 >>> (16 &&& 31)) &&& 255)) 18 ((x_4 >>> (8 &&& 31)) &&& 255)) 19 ((x_4 >>> (0 &&& 31)) &&& 255))))] := hD
  refine lv_aload_n hx hb dX12_feed_47 rfl (lv_at hl 0 rfl) ?_
  refine va_get (D := D) (ci := 12) (v := .int 20) (C := RX12) (T := TX12) (N := 56) hx hb hts inX12 hown hK hP 0 rfl rfl 11 (by decide) (hts _ kF_X12_193) (fun _ h9 => h9) rfl dX12_feed_48 ?_
  exact z_iret C0 hr hlk rfl hK hP hD hS (0, fun _ => 0) ⟨rfl, rfl⟩ [] rfl rfl rfl dX12_feed_51

set_option maxHeartbeats 4000000 in
set_option maxRecDepth 100000 in
theorem c_X11_end_1 (l : Launch) (D : va_G) (k : Nat → ClassId) (q_0 : Nat) (q_1 : Nat) (q_2 : Nat) (q_3 : Nat) (q_4 : Nat) (q_5 : Nat) (q_6 : Nat) (q_7 : Nat) (q_8 : Nat) (q_9 : Nat) (q_10 : Nat) (x_0 : Int32) (x_1 : Int32) (x_2 : Int32) (x_3 : Int32) (x_4 : Int32) (x_5 : Int32) (x_6 : Int32) (x_7 : Int32) (x_8 : Int32) (x_9 : Int32) (g_10 : Int64) (x_11 : Int32) : zMi l yX11_end cX11_end 2 (some .int) ({ frames := 1, cells := 0, slots := 0, locals := 22 }) D k [.ref q_0, .int x_0] [(q_0, .inr (11, [.ref q_2, .ref q_3, .ref q_1, .ref q_4, .ref q_5, .int x_1])), (q_1, .inr (7, [.ref q_6, .int 0, .int x_2, .int x_3, .ref q_7, .ref q_8, .ref q_9, .ref q_10, .int x_4, .int x_5, .int x_6, .int x_7, .int x_8, .int x_9, .long g_10, .int x_11]))] (fun r u => (u.1 = 0 ∧ r = (-1) ∧ ((((x_0 < 0) ∨ (¬ x_0 < 0 ∧ ¬ x_0 ≤ 0))))) ∨ (u.1 = 1 ∧ r = x_0 ∧ ((((¬ x_0 < 0 ∧ x_0 ≤ 0)))))) (fun u => []) := by
  refine zMi_of (own := RX11) (by decide +kernel) rfl (Nat.le_of_ble_eq_true rfl) ?_
  intro p e s m args below meth c A ls C0 hr hlk hin hP hD hS hA hK hN hl
  have hx := C0.1
  have hb := C0.2.1
  have hml := C0.2.2.1
  have hown := C0.2.2.2.1
  have hts := C0.2.2.2.2
  have hl : lv_has ls 2 [(0, .ref q_0), (1, .int x_0)] := hl
  have hP : va_P D vwCl [(q_0, .inr (11, [.ref q_2, .ref q_3, .ref q_1, .ref q_4, .ref q_5, .int x_1])), (q_1, .inr (7, [.ref q_6, .int 0, .int x_2, .int x_3, .ref q_7, .ref q_8, .ref q_9, .ref q_10, .int x_4, .int x_5, .int x_6, .int x_7, .int x_8, .int x_9, .long g_10, .int x_11]))] s.heap := hP
  refine lv_iload_n hx hb dX11_end_0 rfl (lv_at hl 1 rfl) ?_
  refine lv_iconst (v := 0) hx hb dX11_end_1 (by decide) ?_
  refine lv_aload_n hx hb dX11_end_2 rfl (lv_at hl 0 rfl) ?_
  refine va_get (D := D) (ci := 11) (v := .ref q_1) (C := RX11) (T := TX11) (N := 6) hx hb hts inX11 hown hK hP 0 rfl rfl 2 (by decide) (hts _ kF_X11_23) (fun _ h9 => h9) rfl dX11_end_3 ?_
  refine va_get (D := D) (ci := 7) (v := .int 0) (C := RX7) (T := TX7) (N := 16) hx hb hts inX7 hown hK hP 1 rfl rfl 1 (by decide) (hts _ kF_X11_181) (fun _ h9 => h9) rfl dX11_end_6 ?_
  refine z_bi0 (z_runS (As := [.int x_0, .int 0, .int 0]) (rest := []) C0 (c_X11_isOutside_1 l D k x_0 0 0 _) okS_X11_isOutside kM_X11_47 rfl (z_p0 hK hN) rfl hl.1 rfl (Nat.le_of_ble_eq_true rfl) dX11_end_9 rfl) hP hS hA (fun r1 u1 H locs hw1 hP hS => ?_)
  obtain ⟨i1, a1⟩ := u1
  dsimp only at hw1
  rcases hw1 with ⟨rfl, rfl, c1⟩ | ⟨rfl, rfl, c1⟩
  · refine lv_if_eq (tgt := 17) hx hb dX11_end_12 (by decide) (fun c2 => absurd c2 (by decide)) (fun _ => ?_)
    refine lv_iconst (v := (-1)) hx hb dX11_end_15 (by decide) ?_
    exact z_iret C0 hr hlk rfl hK hP hD hS (0, fun _ => 0) (Or.inl ⟨rfl, rfl, c1⟩) [] rfl rfl rfl dX11_end_16
  · refine lv_if_eq (tgt := 17) hx hb dX11_end_12 (by decide) (fun _ => ?_) (fun c3 => absurd (by decide) c3)
    refine lv_aload_n hx hb dX11_end_17 rfl (lv_at hl 0 rfl) ?_
    refine va_get (D := D) (ci := 11) (v := .ref q_1) (C := RX11) (T := TX11) (N := 6) hx hb hts inX11 hown hK hP 0 rfl rfl 2 (by decide) (hts _ kF_X11_23) (fun _ h9 => h9) rfl dX11_end_18 ?_
    refine lv_iload_n hx hb dX11_end_21 rfl (lv_at hl 1 rfl) ?_
    refine va_put (D := D) (ci := 7) (v := .int x_0) (ty := .int) (C := RX7) (T := TX7) (N := 16) hx hb hts inX7 tyX7 tyX7_ok nmX7 hown hK hP hD hS 1 rfl rfl 1 (by decide) (hts _ kF_X11_181) (fun _ h9 => h9) rfl (by decide +kernel) rfl rfl (Nat.le_of_ble_eq_true rfl) dX11_end_22 (fun H locs hP hD hS => ?_)
    have hP : va_P D vwCl [(q_0, .inr (11, [.ref q_2, .ref q_3, .ref q_1, .ref q_4, .ref q_5, .int x_1])), (q_1, .inr (7, [.ref q_6, .int x_0, .int x_2, .int x_3, .ref q_7, .ref q_8, .ref q_9, .ref q_10, .int x_4, .int x_5, .int x_6, .int x_7, .int x_8, .int x_9, .long g_10, .int x_11]))] H := hP
    have hD : va_D A [(q_0, .inr (11, [.ref q_2, .ref q_3, .ref q_1, .ref q_4, .ref q_5, .int x_1])), (q_1, .inr (7, [.ref q_6, .int x_0, .int x_2, .int x_3, .ref q_7, .ref q_8, .ref q_9, .ref q_10, .int x_4, .int x_5, .int x_6, .int x_7, .int x_8, .int x_9, .long g_10, .int x_11]))] := hD
    refine lv_iload_n hx hb dX11_end_25 rfl (lv_at hl 1 rfl) ?_
    exact z_iret C0 hr hlk rfl hK hP hD hS (1, fun _ => 0) (Or.inr (⟨rfl, rfl, c1⟩)) [] rfl rfl rfl dX11_end_26

set_option maxHeartbeats 4000000 in
set_option maxRecDepth 100000 in
theorem c_X12_end_1 (l : Launch) (D : va_G) (k : Nat → ClassId) (q_0 : Nat) (q_1 : Nat) (q_2 : Nat) (q_3 : Nat) (q_4 : Nat) (q_5 : Nat) (q_6 : Nat) (q_7 : Nat) (q_8 : Nat) (q_9 : Nat) (q_10 : Nat) (q_11 : Nat) (q_12 : Nat) (q_13 : Nat) (q_14 : Nat) (q_15 : Nat) (q_16 : Nat) (q_17 : Nat) (q_18 : Nat) (q_19 : Nat) (q_20 : Nat) (q_21 : Nat) (q_22 : Nat) (q_23 : Nat) (q_24 : Nat) (q_25 : Nat) (x_0 : Int32) (x_1 : Int32) (x_2 : Int32) (x_3 : Int32) (x_4 : Int32) (x_5 : Int32) (x_6 : Int32) (g_7 : Int64) (x_8 : Int32) (x_9 : Int32) (x_10 : Int32) (x_11 : Int32) (x_12 : Int32) (x_13 : Int32) (x_14 : Int32) (x_15 : Int32) (g_16 : Int64) (g_17 : Int64) (x_18 : Int32) (x_19 : Int32) (x_20 : Int32) (x_21 : Int32) (x_22 : Int32) (x_23 : Int32) (x_24 : Int32) (x_25 : Int32) (x_26 : Int32) (x_27 : Int32) (x_28 : Int32) (x_29 : Int32) (x_30 : Int32) : zMi l yX12_end cX12_end 2 (some .int) ({ frames := 0, cells := 0, slots := 0, locals := 0 }) D k [.ref q_0, .int x_0] [(q_0, .inr (12, [.int x_1, .int x_2, .ref q_1, .ref q_2, .ref q_3, .int x_3, .ref q_4, .ref q_5, .ref q_6, .ref q_7, .ref q_8, .int 0, .int x_4, .int x_5, .int x_6, .long g_7, .int x_8, .int x_9, .int x_10, .ref q_9, .int x_11, .ref q_10, .ref q_11, .int x_12, .ref q_12, .ref q_13, .int x_13, .int x_14, .ref q_14, .ref q_15, .ref q_16, .ref q_17, .int x_15, .long g_16, .long g_17, .int x_18, .int x_19, .int x_20, .int x_21, .ref q_18, .ref q_19, .int x_22, .int x_23, .int x_24, .int x_25, .ref q_20, .ref q_21, .int x_26, .int x_27, .ref q_22, .ref q_23, .ref q_24, .ref q_25, .int x_28, .int x_29, .int x_30]))] (fun r u => (u.1 = 0 ∧ r = (-1) ∧ ((x_0 < 0) ∨ (¬ x_0 < 0 ∧ ¬ x_0 ≤ 0))) ∨ (u.1 = 1 ∧ r = x_0 ∧ ((¬ x_0 < 0 ∧ x_0 ≤ 0)))) (fun u => []) := by
  refine zMi_of (own := RX12) (by decide +kernel) rfl (Nat.le_of_ble_eq_true rfl) ?_
  intro p e s m args below meth c A ls C0 hr hlk hin hP hD hS hA hK hN hl
  have hx := C0.1
  have hb := C0.2.1
  have hml := C0.2.2.1
  have hown := C0.2.2.2.1
  have hts := C0.2.2.2.2
  have hl : lv_has ls 2 [(0, .ref q_0), (1, .int x_0)] := hl
  have hP : va_P D vwCl [(q_0, .inr (12, [.int x_1, .int x_2, .ref q_1, .ref q_2, .ref q_3, .int x_3, .ref q_4, .ref q_5, .ref q_6, .ref q_7, .ref q_8, .int 0, .int x_4, .int x_5, .int x_6, .long g_7, .int x_8, .int x_9, .int x_10, .ref q_9, .int x_11, .ref q_10, .ref q_11, .int x_12, .ref q_12, .ref q_13, .int x_13, .int x_14, .ref q_14, .ref q_15, .ref q_16, .ref q_17, .int x_15, .long g_16, .long g_17, .int x_18, .int x_19, .int x_20, .int x_21, .ref q_18, .ref q_19, .int x_22, .int x_23, .int x_24, .int x_25, .ref q_20, .ref q_21, .int x_26, .int x_27, .ref q_22, .ref q_23, .ref q_24, .ref q_25, .int x_28, .int x_29, .int x_30]))] s.heap := hP
  refine lv_aload_n hx hb dX12_end_0 rfl (lv_at hl 0 rfl) ?_
  refine lv_iconst (v := 0) hx hb dX12_end_1 (by decide) ?_
  refine va_put (D := D) (ci := 12) (v := .int 0) (ty := .int) (C := RX12) (T := TX12) (N := 56) hx hb hts inX12 tyX12 tyX12_ok nmX12 hown hK hP hD hS 0 rfl rfl 0 (by decide) (hts _ kF_X12_92) (fun _ h9 => h9) rfl (by decide +kernel) rfl rfl (Nat.le_of_ble_eq_true rfl) dX12_end_2 (fun H locs hP hD hS => ?_)
  have hP : va_P D vwCl [(q_0, .inr (12, [.int 0, .int x_2, .ref q_1, .ref q_2, .ref q_3, .int x_3, .ref q_4, .ref q_5, .ref q_6, .ref q_7, .ref q_8, .int 0, .int x_4, .int x_5, .int x_6, .long g_7, .int x_8, .int x_9, .int x_10, .ref q_9, .int x_11, .ref q_10, .ref q_11, .int x_12, .ref q_12, .ref q_13, .int x_13, .int x_14, .ref q_14, .ref q_15, .ref q_16, .ref q_17, .int x_15, .long g_16, .long g_17, .int x_18, .int x_19, .int x_20, .int x_21, .ref q_18, .ref q_19, .int x_22, .int x_23, .int x_24, .int x_25, .ref q_20, .ref q_21, .int x_26, .int x_27, .ref q_22, .ref q_23, .ref q_24, .ref q_25, .int x_28, .int x_29, .int x_30]))] H := hP
  have hD : va_D A [(q_0, .inr (12, [.int 0, .int x_2, .ref q_1, .ref q_2, .ref q_3, .int x_3, .ref q_4, .ref q_5, .ref q_6, .ref q_7, .ref q_8, .int 0, .int x_4, .int x_5, .int x_6, .long g_7, .int x_8, .int x_9, .int x_10, .ref q_9, .int x_11, .ref q_10, .ref q_11, .int x_12, .ref q_12, .ref q_13, .int x_13, .int x_14, .ref q_14, .ref q_15, .ref q_16, .ref q_17, .int x_15, .long g_16, .long g_17, .int x_18, .int x_19, .int x_20, .int x_21, .ref q_18, .ref q_19, .int x_22, .int x_23, .int x_24, .int x_25, .ref q_20, .ref q_21, .int x_26, .int x_27, .ref q_22, .ref q_23, .ref q_24, .ref q_25, .int x_28, .int x_29, .int x_30]))] := hD
  refine lv_iload_n hx hb dX12_end_5 rfl (lv_at hl 1 rfl) ?_
  refine lv_if_lt (tgt := 17) hx hb dX12_end_6 (by decide) (fun c1 => ?_) (fun c1 => ?_)
  · refine lv_iconst (v := (-1)) hx hb dX12_end_17 (by decide) ?_
    exact z_iret C0 hr hlk rfl hK hP hD hS (0, fun _ => 0) (Or.inl ⟨rfl, rfl, (Or.inl c1)⟩) [] rfl rfl rfl dX12_end_18
  · refine lv_iload_n hx hb dX12_end_9 rfl (lv_at hl 1 rfl) ?_
    refine lv_aload_n hx hb dX12_end_10 rfl (lv_at hl 0 rfl) ?_
    refine va_get (D := D) (ci := 12) (v := .int 0) (C := RX12) (T := TX12) (N := 56) hx hb hts inX12 hown hK hP 0 rfl rfl 11 (by decide) (hts _ kF_X12_193) (fun _ h9 => h9) rfl dX12_end_11 ?_
    refine lv_icmp_le (tgt := 19) hx hb dX12_end_14 (by decide) (fun c2 => ?_) (fun c2 => ?_)
    · refine lv_aload_n hx hb dX12_end_19 rfl (lv_at hl 0 rfl) ?_
      refine lv_iload_n hx hb dX12_end_20 rfl (lv_at hl 1 rfl) ?_
      refine va_put (D := D) (ci := 12) (v := .int x_0) (ty := .int) (C := RX12) (T := TX12) (N := 56) hx hb hts inX12 tyX12 tyX12_ok nmX12 hown hK hP hD hS 0 rfl rfl 11 (by decide) (hts _ kF_X12_193) (fun _ h9 => h9) rfl (by decide +kernel) rfl rfl (Nat.le_of_ble_eq_true rfl) dX12_end_21 (fun H locs hP hD hS => ?_)
      have hP : va_P D vwCl [(q_0, .inr (12, [.int 0, .int x_2, .ref q_1, .ref q_2, .ref q_3, .int x_3, .ref q_4, .ref q_5, .ref q_6, .ref q_7, .ref q_8, .int x_0, .int x_4, .int x_5, .int x_6, .long g_7, .int x_8, .int x_9, .int x_10, .ref q_9, .int x_11, .ref q_10, .ref q_11, .int x_12, .ref q_12, .ref q_13, .int x_13, .int x_14, .ref q_14, .ref q_15, .ref q_16, .ref q_17, .int x_15, .long g_16, .long g_17, .int x_18, .int x_19, .int x_20, .int x_21, .ref q_18, .ref q_19, .int x_22, .int x_23, .int x_24, .int x_25, .ref q_20, .ref q_21, .int x_26, .int x_27, .ref q_22, .ref q_23, .ref q_24, .ref q_25, .int x_28, .int x_29, .int x_30]))] H := hP
      have hD : va_D A [(q_0, .inr (12, [.int 0, .int x_2, .ref q_1, .ref q_2, .ref q_3, .int x_3, .ref q_4, .ref q_5, .ref q_6, .ref q_7, .ref q_8, .int x_0, .int x_4, .int x_5, .int x_6, .long g_7, .int x_8, .int x_9, .int x_10, .ref q_9, .int x_11, .ref q_10, .ref q_11, .int x_12, .ref q_12, .ref q_13, .int x_13, .int x_14, .ref q_14, .ref q_15, .ref q_16, .ref q_17, .int x_15, .long g_16, .long g_17, .int x_18, .int x_19, .int x_20, .int x_21, .ref q_18, .ref q_19, .int x_22, .int x_23, .int x_24, .int x_25, .ref q_20, .ref q_21, .int x_26, .int x_27, .ref q_22, .ref q_23, .ref q_24, .ref q_25, .int x_28, .int x_29, .int x_30]))] := hD
      refine lv_iload_n hx hb dX12_end_24 rfl (lv_at hl 1 rfl) ?_
      exact z_iret C0 hr hlk rfl hK hP hD hS (1, fun _ => 0) (Or.inr (⟨rfl, rfl, ⟨c1, c2⟩⟩)) [] rfl rfl rfl dX12_end_25
    · refine lv_iconst (v := (-1)) hx hb dX12_end_17 (by decide) ?_
      exact z_iret C0 hr hlk rfl hK hP hD hS (0, fun _ => 0) (Or.inl ⟨rfl, rfl, (Or.inr (⟨c1, c2⟩))⟩) [] rfl rfl rfl dX12_end_18

set_option maxHeartbeats 4000000 in
set_option maxRecDepth 100000 in
theorem c_X7_nextToken_1 (l : Launch) (D : va_G) (k : Nat → ClassId) (q_0 : Nat) (q_1 : Nat) (q_2 : Nat) (q_3 : Nat) (q_4 : Nat) (q_5 : Nat) (x_0 : Int32) (x_1 : Int32) (x_2 : Int32) (x_3 : Int32) (x_4 : Int32) (x_5 : Int32) (x_6 : Int32) (g_7 : Int64) (x_8 : Int32) : zMv l yX7_nextToken cX7_nextToken 2 none ({ frames := 0, cells := 0, slots := 0, locals := 0 }) D k [.ref q_0] [(q_0, .inr (7, [.ref q_1, .int 0, .int x_0, .int x_1, .ref q_2, .ref q_3, .ref q_4, .ref q_5, .int x_2, .int x_3, .int x_4, .int x_5, .int 0, .int x_6, .long g_7, .int x_8]))] (fun u => u.1 = 0) (fun u => [(q_0, .inr (7, [.ref q_1, .int 0, .int x_0, .int x_1, .ref q_2, .ref q_3, .ref q_4, .ref q_5, .int x_2, .int x_3, .int 0, .int 0, .int 0, .int 0, .long 0, .int x_8]))]) := by
  refine zMv_of (own := RX7) (by decide +kernel) rfl (Nat.le_of_ble_eq_true rfl) ?_
  intro p e s m args below meth c A ls C0 hr hlk hin hP hD hS hA hK hN hl
  have hx := C0.1
  have hb := C0.2.1
  have hml := C0.2.2.1
  have hown := C0.2.2.2.1
  have hts := C0.2.2.2.2
  have hl : lv_has ls 2 [(0, .ref q_0)] := hl
  have hP : va_P D vwCl [(q_0, .inr (7, [.ref q_1, .int 0, .int x_0, .int x_1, .ref q_2, .ref q_3, .ref q_4, .ref q_5, .int x_2, .int x_3, .int x_4, .int x_5, .int 0, .int x_6, .long g_7, .int x_8]))] s.heap := hP
  refine lv_aload_n hx hb dX7_nextToken_0 rfl (lv_at hl 0 rfl) ?_
  refine va_get (D := D) (ci := 7) (v := .int 0) (C := RX7) (T := TX7) (N := 16) hx hb hts inX7 hown hK hP 0 rfl rfl 12 (by decide) (hts _ kF_X7_40) (fun _ h9 => h9) rfl dX7_nextToken_1 ?_
  refine lv_istore_n (lv' := [(1, .int 0), (0, .ref q_0)]) hx hb dX7_nextToken_4 rfl hl (by decide) rfl (fun ls hl => ?_)
  refine lv_iload_n hx hb dX7_nextToken_5 rfl (lv_at hl 0 rfl) ?_
  refine lv_aload_n hx hb dX7_nextToken_6 rfl (lv_at hl 1 rfl) ?_
  refine va_get (D := D) (ci := 7) (v := .int 0) (C := RX7) (T := TX7) (N := 16) hx hb hts inX7 hown hK hP 0 rfl rfl 1 (by decide) (hts _ kF_X7_31) (fun _ h9 => h9) rfl dX7_nextToken_7 ?_
  refine lv_icmp_ge (tgt := 30) hx hb dX7_nextToken_10 (by decide) (fun _ => ?_) (fun c1 => absurd (by decide) c1)
  refine lv_aload_n hx hb dX7_nextToken_30 rfl (lv_at hl 1 rfl) ?_
  refine lv_iload_n hx hb dX7_nextToken_31 rfl (lv_at hl 0 rfl) ?_
  refine va_put (D := D) (ci := 7) (v := .int 0) (ty := .int) (C := RX7) (T := TX7) (N := 16) hx hb hts inX7 tyX7 tyX7_ok nmX7 hown hK hP hD hS 0 rfl rfl 11 (by decide) (hts _ kF_X7_163) (fun _ h9 => h9) rfl (by decide +kernel) rfl rfl (Nat.le_of_ble_eq_true rfl) dX7_nextToken_32 (fun H locs hP hD hS => ?_)
  have hP : va_P D vwCl [(q_0, .inr (7, [.ref q_1, .int 0, .int x_0, .int x_1, .ref q_2, .ref q_3, .ref q_4, .ref q_5, .int x_2, .int x_3, .int x_4, .int 0, .int 0, .int x_6, .long g_7, .int x_8]))] H := hP
  have hD : va_D A [(q_0, .inr (7, [.ref q_1, .int 0, .int x_0, .int x_1, .ref q_2, .ref q_3, .ref q_4, .ref q_5, .int x_2, .int x_3, .int x_4, .int 0, .int 0, .int x_6, .long g_7, .int x_8]))] := hD
  refine lv_aload_n hx hb dX7_nextToken_35 rfl (lv_at hl 1 rfl) ?_
  refine lv_lconst (v := 0) hx hb dX7_nextToken_36 (by decide) ?_
  refine va_put (D := D) (ci := 7) (v := .long 0) (ty := .long) (C := RX7) (T := TX7) (N := 16) hx hb hts inX7 tyX7 tyX7_ok nmX7 hown hK hP hD hS 0 rfl rfl 14 (by decide) (hts _ kF_X7_52) (fun _ h9 => h9) rfl (by decide +kernel) rfl rfl (Nat.le_of_ble_eq_true rfl) dX7_nextToken_37 (fun H locs hP hD hS => ?_)
  have hP : va_P D vwCl [(q_0, .inr (7, [.ref q_1, .int 0, .int x_0, .int x_1, .ref q_2, .ref q_3, .ref q_4, .ref q_5, .int x_2, .int x_3, .int x_4, .int 0, .int 0, .int x_6, .long 0, .int x_8]))] H := hP
  have hD : va_D A [(q_0, .inr (7, [.ref q_1, .int 0, .int x_0, .int x_1, .ref q_2, .ref q_3, .ref q_4, .ref q_5, .int x_2, .int x_3, .int x_4, .int 0, .int 0, .int x_6, .long 0, .int x_8]))] := hD
  refine lv_aload_n hx hb dX7_nextToken_40 rfl (lv_at hl 1 rfl) ?_
  refine lv_iconst (v := 0) hx hb dX7_nextToken_41 (by decide) ?_
  refine va_put (D := D) (ci := 7) (v := .int 0) (ty := .int) (C := RX7) (T := TX7) (N := 16) hx hb hts inX7 tyX7 tyX7_ok nmX7 hown hK hP hD hS 0 rfl rfl 13 (by decide) (hts _ kF_X7_156) (fun _ h9 => h9) rfl (by decide +kernel) rfl rfl (Nat.le_of_ble_eq_true rfl) dX7_nextToken_42 (fun H locs hP hD hS => ?_)
  have hP : va_P D vwCl [(q_0, .inr (7, [.ref q_1, .int 0, .int x_0, .int x_1, .ref q_2, .ref q_3, .ref q_4, .ref q_5, .int x_2, .int x_3, .int x_4, .int 0, .int 0, .int 0, .long 0, .int x_8]))] H := hP
  have hD : va_D A [(q_0, .inr (7, [.ref q_1, .int 0, .int x_0, .int x_1, .ref q_2, .ref q_3, .ref q_4, .ref q_5, .int x_2, .int x_3, .int x_4, .int 0, .int 0, .int 0, .long 0, .int x_8]))] := hD
  refine lv_iload_n hx hb dX7_nextToken_45 rfl (lv_at hl 0 rfl) ?_
  refine lv_aload_n hx hb dX7_nextToken_46 rfl (lv_at hl 1 rfl) ?_
  refine va_get (D := D) (ci := 7) (v := .int 0) (C := RX7) (T := TX7) (N := 16) hx hb hts inX7 hown hK hP 0 rfl rfl 1 (by decide) (hts _ kF_X7_31) (fun _ h9 => h9) rfl dX7_nextToken_47 ?_
  refine lv_icmp_lt (tgt := 61) hx hb dX7_nextToken_50 (by decide) (fun c2 => absurd c2 (by decide)) (fun _ => ?_)
  refine lv_aload_n hx hb dX7_nextToken_53 rfl (lv_at hl 1 rfl) ?_
  refine lv_iconst (v := 0) hx hb dX7_nextToken_54 (by decide) ?_
  refine va_put (D := D) (ci := 7) (v := .int 0) (ty := .int) (C := RX7) (T := TX7) (N := 16) hx hb hts inX7 tyX7 tyX7_ok nmX7 hown hK hP hD hS 0 rfl rfl 10 (by decide) (hts _ kF_X7_66) (fun _ h9 => h9) rfl (by decide +kernel) rfl rfl (Nat.le_of_ble_eq_true rfl) dX7_nextToken_55 (fun H locs hP hD hS => ?_)
  have hP : va_P D vwCl [(q_0, .inr (7, [.ref q_1, .int 0, .int x_0, .int x_1, .ref q_2, .ref q_3, .ref q_4, .ref q_5, .int x_2, .int x_3, .int 0, .int 0, .int 0, .int 0, .long 0, .int x_8]))] H := hP
  have hD : va_D A [(q_0, .inr (7, [.ref q_1, .int 0, .int x_0, .int x_1, .ref q_2, .ref q_3, .ref q_4, .ref q_5, .int x_2, .int x_3, .int 0, .int 0, .int 0, .int 0, .long 0, .int x_8]))] := hD
  refine lv_goto (tgt := 266) hx hb dX7_nextToken_58 (by decide) ?_
  refine lv_aload_n hx hb dX7_nextToken_266 rfl (lv_at hl 1 rfl) ?_
  refine lv_iload_n hx hb dX7_nextToken_267 rfl (lv_at hl 0 rfl) ?_
  refine va_put (D := D) (ci := 7) (v := .int 0) (ty := .int) (C := RX7) (T := TX7) (N := 16) hx hb hts inX7 tyX7 tyX7_ok nmX7 hown hK hP hD hS 0 rfl rfl 12 (by decide) (hts _ kF_X7_40) (fun _ h9 => h9) rfl (by decide +kernel) rfl rfl (Nat.le_of_ble_eq_true rfl) dX7_nextToken_268 (fun H locs hP hD hS => ?_)
  have hP : va_P D vwCl [(q_0, .inr (7, [.ref q_1, .int 0, .int x_0, .int x_1, .ref q_2, .ref q_3, .ref q_4, .ref q_5, .int x_2, .int x_3, .int 0, .int 0, .int 0, .int 0, .long 0, .int x_8]))] H := hP
  have hD : va_D A [(q_0, .inr (7, [.ref q_1, .int 0, .int x_0, .int x_1, .ref q_2, .ref q_3, .ref q_4, .ref q_5, .int x_2, .int x_3, .int 0, .int 0, .int 0, .int 0, .long 0, .int x_8]))] := hD
  exact z_vret C0 hr hlk hK hP hD hS (0, fun _ => 0) rfl [0] rfl rfl rfl dX7_nextToken_271

set_option maxHeartbeats 4000000 in
set_option maxRecDepth 100000 in
theorem c_X7_refuseToken_1 (l : Launch) (D : va_G) (k : Nat → ClassId) (q_0 : Nat) (q_1 : Nat) (q_2 : Nat) (q_3 : Nat) (q_4 : Nat) (q_5 : Nat) (x_0 : Int32) (x_1 : Int32) (x_2 : Int32) (x_3 : Int32) (x_4 : Int32) (x_5 : Int32) (x_6 : Int32) (g_7 : Int64) (x_8 : Int32) : zMv l yX7_refuseToken cX7_refuseToken 1 none ({ frames := 0, cells := 0, slots := 0, locals := 0 }) D k [.ref q_0] [(q_0, .inr (7, [.ref q_1, .int x_0, .int (-1), .int x_1, .ref q_2, .ref q_3, .ref q_4, .ref q_5, .int x_2, .int x_3, .int x_4, .int 0, .int x_5, .int x_6, .long g_7, .int x_8]))] (fun u => u.1 = 0) (fun u => [(q_0, .inr (7, [.ref q_1, .int x_0, .int 0, .int x_1, .ref q_2, .ref q_3, .ref q_4, .ref q_5, .int x_2, .int x_3, .int x_4, .int 0, .int x_5, .int x_6, .long g_7, .int x_8]))]) := by
  refine zMv_of (own := RX7) (by decide +kernel) rfl (Nat.le_of_ble_eq_true rfl) ?_
  intro p e s m args below meth c A ls C0 hr hlk hin hP hD hS hA hK hN hl
  have hx := C0.1
  have hb := C0.2.1
  have hml := C0.2.2.1
  have hown := C0.2.2.2.1
  have hts := C0.2.2.2.2
  have hl : lv_has ls 1 [(0, .ref q_0)] := hl
  have hP : va_P D vwCl [(q_0, .inr (7, [.ref q_1, .int x_0, .int (-1), .int x_1, .ref q_2, .ref q_3, .ref q_4, .ref q_5, .int x_2, .int x_3, .int x_4, .int 0, .int x_5, .int x_6, .long g_7, .int x_8]))] s.heap := hP
  refine lv_aload_n hx hb dX7_refuseToken_0 rfl (lv_at hl 0 rfl) ?_
  refine va_get (D := D) (ci := 7) (v := .int (-1)) (C := RX7) (T := TX7) (N := 16) hx hb hts inX7 hown hK hP 0 rfl rfl 2 (by decide) (hts _ kF_X7_15) (fun _ h9 => h9) rfl dX7_refuseToken_1 ?_
  refine lv_iconst (v := (-1)) hx hb dX7_refuseToken_4 (by decide) ?_
  refine lv_icmp_ne (tgt := 16) hx hb dX7_refuseToken_5 (by decide) (fun c1 => absurd (by decide) c1) (fun _ => ?_)
  refine lv_aload_n hx hb dX7_refuseToken_8 rfl (lv_at hl 0 rfl) ?_
  refine lv_aload_n hx hb dX7_refuseToken_9 rfl (lv_at hl 0 rfl) ?_
  refine va_get (D := D) (ci := 7) (v := .int 0) (C := RX7) (T := TX7) (N := 16) hx hb hts inX7 hown hK hP 0 rfl rfl 11 (by decide) (hts _ kF_X7_163) (fun _ h9 => h9) rfl dX7_refuseToken_10 ?_
  refine va_put (D := D) (ci := 7) (v := .int 0) (ty := .int) (C := RX7) (T := TX7) (N := 16) hx hb hts inX7 tyX7 tyX7_ok nmX7 hown hK hP hD hS 0 rfl rfl 2 (by decide) (hts _ kF_X7_15) (fun _ h9 => h9) rfl (by decide +kernel) rfl rfl (Nat.le_of_ble_eq_true rfl) dX7_refuseToken_13 (fun H locs hP hD hS => ?_)
  have hP : va_P D vwCl [(q_0, .inr (7, [.ref q_1, .int x_0, .int 0, .int x_1, .ref q_2, .ref q_3, .ref q_4, .ref q_5, .int x_2, .int x_3, .int x_4, .int 0, .int x_5, .int x_6, .long g_7, .int x_8]))] H := hP
  have hD : va_D A [(q_0, .inr (7, [.ref q_1, .int x_0, .int 0, .int x_1, .ref q_2, .ref q_3, .ref q_4, .ref q_5, .int x_2, .int x_3, .int x_4, .int 0, .int x_5, .int x_6, .long g_7, .int x_8]))] := hD
  exact z_vret C0 hr hlk hK hP hD hS (0, fun _ => 0) rfl [0] rfl rfl rfl dX7_refuseToken_16

set_option maxHeartbeats 4000000 in
set_option maxRecDepth 100000 in
theorem c_X7_readHead_1 (l : Launch) (D : va_G) (k : Nat → ClassId) (q_0 : Nat) (q_1 : Nat) (q_2 : Nat) (q_3 : Nat) (q_4 : Nat) (q_5 : Nat) (x_0 : Int32) (x_1 : Int32) (x_2 : Int32) (x_3 : Int32) (x_4 : Int32) (x_5 : Int32) (x_6 : Int32) (x_7 : Int32) : zMv l yX7_readHead cX7_readHead 2 none ({ frames := 1, cells := 0, slots := 0, locals := 20 }) D k [.ref q_0] [(q_0, .inr (7, [.ref q_1, .int x_0, .int (-1), .int x_1, .ref q_2, .ref q_3, .ref q_4, .ref q_5, .int x_2, .int x_3, .int x_4, .int 0, .int x_5, .int x_6, .long 0, .int x_7]))] (fun u => u.1 = 0) (fun u => [(q_0, .inr (7, [.ref q_1, .int x_0, .int 0, .int x_1, .ref q_2, .ref q_3, .ref q_4, .ref q_5, .int x_2, .int x_3, .int x_4, .int 0, .int x_5, .int x_6, .long 0, .int x_7]))]) := by
  refine zMv_of (own := RX7) (by decide +kernel) rfl (Nat.le_of_ble_eq_true rfl) ?_
  intro p e s m args below meth c A ls C0 hr hlk hin hP hD hS hA hK hN hl
  have hx := C0.1
  have hb := C0.2.1
  have hml := C0.2.2.1
  have hown := C0.2.2.2.1
  have hts := C0.2.2.2.2
  have hl : lv_has ls 2 [(0, .ref q_0)] := hl
  have hP : va_P D vwCl [(q_0, .inr (7, [.ref q_1, .int x_0, .int (-1), .int x_1, .ref q_2, .ref q_3, .ref q_4, .ref q_5, .int x_2, .int x_3, .int x_4, .int 0, .int x_5, .int x_6, .long 0, .int x_7]))] s.heap := hP
  refine lv_aload_n hx hb dX7_readHead_0 rfl (lv_at hl 0 rfl) ?_
  refine va_get (D := D) (ci := 7) (v := .long 0) (C := RX7) (T := TX7) (N := 16) hx hb hts inX7 hown hK hP 0 rfl rfl 14 (by decide) (hts _ kF_X7_52) (fun _ h9 => h9) rfl dX7_readHead_1 ?_
  refine lv_ldc2 hx hb hown (hts _ kL_X7_77) dX7_readHead_4 ?_
  refine W.lcmp hx hb dX7_readHead_7 ?_
  refine lv_toc (v := (-1)) (by decide) ?_
  refine lv_if_ne (tgt := 34) hx hb dX7_readHead_8 (by decide) (fun _ => ?_) (fun c1 => absurd c1 (by decide))
  refine lv_aload_n hx hb dX7_readHead_34 rfl (lv_at hl 0 rfl) ?_
  refine va_get (D := D) (ci := 7) (v := .long 0) (C := RX7) (T := TX7) (N := 16) hx hb hts inX7 hown hK hP 0 rfl rfl 14 (by decide) (hts _ kF_X7_52) (fun _ h9 => h9) rfl dX7_readHead_35 ?_
  refine lv_ldc2 hx hb hown (hts _ kL_X7_90) dX7_readHead_38 ?_
  refine W.lcmp hx hb dX7_readHead_41 ?_
  refine lv_toc (v := (-1)) (by decide) ?_
  refine lv_if_ne (tgt := 58) hx hb dX7_readHead_42 (by decide) (fun _ => ?_) (fun c2 => absurd c2 (by decide))
  refine lv_aload_n hx hb dX7_readHead_58 rfl (lv_at hl 0 rfl) ?_
  refine va_get (D := D) (ci := 7) (v := .long 0) (C := RX7) (T := TX7) (N := 16) hx hb hts inX7 hown hK hP 0 rfl rfl 14 (by decide) (hts _ kF_X7_52) (fun _ h9 => h9) rfl dX7_readHead_59 ?_
  refine lv_ldc2 hx hb hown (hts _ kL_X7_98) dX7_readHead_62 ?_
  refine W.lcmp hx hb dX7_readHead_65 ?_
  refine lv_toc (v := (-1)) (by decide) ?_
  refine lv_if_ne (tgt := 82) hx hb dX7_readHead_66 (by decide) (fun _ => ?_) (fun c3 => absurd c3 (by decide))
  refine lv_aload_n hx hb dX7_readHead_82 rfl (lv_at hl 0 rfl) ?_
  refine va_get (D := D) (ci := 7) (v := .long 0) (C := RX7) (T := TX7) (N := 16) hx hb hts inX7 hown hK hP 0 rfl rfl 14 (by decide) (hts _ kF_X7_52) (fun _ h9 => h9) rfl dX7_readHead_83 ?_
  refine lv_ldc2 hx hb hown (hts _ kL_X7_102) dX7_readHead_86 ?_
  refine W.lcmp hx hb dX7_readHead_89 ?_
  refine lv_toc (v := (-1)) (by decide) ?_
  refine lv_if_ne (tgt := 124) hx hb dX7_readHead_90 (by decide) (fun _ => ?_) (fun c4 => absurd c4 (by decide))
  refine lv_aload_n hx hb dX7_readHead_124 rfl (lv_at hl 0 rfl) ?_
  refine va_get (D := D) (ci := 7) (v := .long 0) (C := RX7) (T := TX7) (N := 16) hx hb hts inX7 hown hK hP 0 rfl rfl 14 (by decide) (hts _ kF_X7_52) (fun _ h9 => h9) rfl dX7_readHead_125 ?_
  refine lv_ldc2 hx hb hown (hts _ kL_X7_108) dX7_readHead_128 ?_
  refine W.lcmp hx hb dX7_readHead_131 ?_
  refine lv_toc (v := (-1)) (by decide) ?_
  refine lv_if_ne (tgt := 150) hx hb dX7_readHead_132 (by decide) (fun _ => ?_) (fun c5 => absurd c5 (by decide))
  refine lv_aload_n hx hb dX7_readHead_150 rfl (lv_at hl 0 rfl) ?_
  refine va_get (D := D) (ci := 7) (v := .long 0) (C := RX7) (T := TX7) (N := 16) hx hb hts inX7 hown hK hP 0 rfl rfl 14 (by decide) (hts _ kF_X7_52) (fun _ h9 => h9) rfl dX7_readHead_151 ?_
  refine lv_ldc2 hx hb hown (hts _ kL_X7_110) dX7_readHead_154 ?_
  refine W.lcmp hx hb dX7_readHead_157 ?_
  refine lv_toc (v := (-1)) (by decide) ?_
  refine lv_if_ne (tgt := 202) hx hb dX7_readHead_158 (by decide) (fun _ => ?_) (fun c6 => absurd c6 (by decide))
  refine lv_aload_n hx hb dX7_readHead_202 rfl (lv_at hl 0 rfl) ?_
  refine z_bv (wr := []) (z_runV (C := RX7) (As := []) (rest := []) C0 (c_X7_refuseToken_1 l D k q_0 q_1 q_2 q_3 q_4 q_5 x_0 x_1 x_2 x_3 x_4 x_5 x_6 0 x_7 _) okV_X7_refuseToken kM_X7_69 rfl (z_pV (q0 := 0) hK hN hP hD [0] rfl rfl rfl rfl rfl) rfl hl.1 rfl (Nat.le_of_ble_eq_true rfl) dX7_readHead_203 rfl) hP hD hS hA [0] [] rfl rfl rfl rfl (fun u7 H locs hw7 hP hD hS => ?_)
  obtain ⟨i7, a7⟩ := u7
  dsimp only at hw7
  obtain rfl := hw7
  have hP : va_P D vwCl [(q_0, .inr (7, [.ref q_1, .int x_0, .int 0, .int x_1, .ref q_2, .ref q_3, .ref q_4, .ref q_5, .int x_2, .int x_3, .int x_4, .int 0, .int x_5, .int x_6, .long 0, .int x_7]))] H := hP
  have hD : va_D A [(q_0, .inr (7, [.ref q_1, .int x_0, .int 0, .int x_1, .ref q_2, .ref q_3, .ref q_4, .ref q_5, .int x_2, .int x_3, .int x_4, .int 0, .int x_5, .int x_6, .long 0, .int x_7]))] := hD
  exact z_vret C0 hr hlk hK hP hD hS (0, fun _ => 0) rfl [0] rfl rfl rfl dX7_readHead_206

set_option maxHeartbeats 4000000 in
set_option maxRecDepth 100000 in
theorem c_X7_readText_1 (l : Launch) (D : va_G) (k : Nat → ClassId) (q_0 : Nat) (q_1 : Nat) (q_2 : Nat) (q_3 : Nat) (q_4 : Nat) (q_5 : Nat) (x_0 : Int32) (x_1 : Int32) (x_2 : Int32) (x_3 : Int32) (f_0 : Nat → Int32) : zMq l yX7_readText cX7_readText 3 (some (.object "HalfDays$Text")) ({ frames := 2, cells := 0, slots := 0, locals := 41 }) D k [.ref q_0] [(q_0, .inr (7, [.ref q_2, .int 0, .int (-1), .int x_0, .ref q_3, .ref q_4, .ref q_1, .ref q_5, .int 0, .int x_1, .int 0, .int 0, .int 0, .int x_2, .long 0, .int x_3])), (q_1, .inl (k 0, 25, .inl f_0))] (fun r u => u.1 = 0 ∧ r = none) (fun u => [(q_0, .inr (7, [.ref q_2, .int 0, .int 0, .int 1, .ref q_3, .ref q_4, .ref q_1, .ref q_5, .int 0, .int 0, .int 0, .int 0, .int 0, .int 0, .long 0, .int x_3])), (q_1, .inl (k 0, 25, .inl (upd (upd (upd f_0 0 0) 1 0) 2 0)))]) := by
  refine zMq_of (own := RX7) (by decide +kernel) rfl (Nat.le_of_ble_eq_true rfl) ?_
  intro p e s m args below meth c A ls C0 hr hlk hin hP hD hS hA hK hN hl
  have hx := C0.1
  have hb := C0.2.1
  have hml := C0.2.2.1
  have hown := C0.2.2.2.1
  have hts := C0.2.2.2.2
  have hl : lv_has ls 3 [(0, .ref q_0)] := hl
  have hP : va_P D vwCl [(q_0, .inr (7, [.ref q_2, .int 0, .int (-1), .int x_0, .ref q_3, .ref q_4, .ref q_1, .ref q_5, .int 0, .int x_1, .int 0, .int 0, .int 0, .int x_2, .long 0, .int x_3])), (q_1, .inl (k 0, 25, .inl f_0))] s.heap := hP
  refine lv_aload_n hx hb dX7_readText_0 rfl (lv_at hl 0 rfl) ?_
  refine lv_iconst (v := (-1)) hx hb dX7_readText_1 (by decide) ?_
  refine va_put (D := D) (ci := 7) (v := .int (-1)) (ty := .int) (C := RX7) (T := TX7) (N := 16) hx hb hts inX7 tyX7 tyX7_ok nmX7 hown hK hP hD hS 0 rfl rfl 2 (by decide) (hts _ kF_X7_15) (fun _ h9 => h9) rfl (by decide +kernel) rfl rfl (Nat.le_of_ble_eq_true rfl) dX7_readText_2 (fun H locs hP hD hS => ?_)
  have hP : va_P D vwCl [(q_0, .inr (7, [.ref q_2, .int 0, .int (-1), .int x_0, .ref q_3, .ref q_4, .ref q_1, .ref q_5, .int 0, .int x_1, .int 0, .int 0, .int 0, .int x_2, .long 0, .int x_3])), (q_1, .inl (k 0, 25, .inl f_0))] H := hP
  have hD : va_D A [(q_0, .inr (7, [.ref q_2, .int 0, .int (-1), .int x_0, .ref q_3, .ref q_4, .ref q_1, .ref q_5, .int 0, .int x_1, .int 0, .int 0, .int 0, .int x_2, .long 0, .int x_3])), (q_1, .inl (k 0, 25, .inl f_0))] := hD
  refine lv_aload_n hx hb dX7_readText_5 rfl (lv_at hl 0 rfl) ?_
  refine lv_iconst (v := 0) hx hb dX7_readText_6 (by decide) ?_
  refine va_put (D := D) (ci := 7) (v := .int 0) (ty := .int) (C := RX7) (T := TX7) (N := 16) hx hb hts inX7 tyX7 tyX7_ok nmX7 hown hK hP hD hS 0 rfl rfl 8 (by decide) (hts _ kF_X7_34) (fun _ h9 => h9) rfl (by decide +kernel) rfl rfl (Nat.le_of_ble_eq_true rfl) dX7_readText_7 (fun H locs hP hD hS => ?_)
  have hP : va_P D vwCl [(q_0, .inr (7, [.ref q_2, .int 0, .int (-1), .int x_0, .ref q_3, .ref q_4, .ref q_1, .ref q_5, .int 0, .int x_1, .int 0, .int 0, .int 0, .int x_2, .long 0, .int x_3])), (q_1, .inl (k 0, 25, .inl f_0))] H := hP
  have hD : va_D A [(q_0, .inr (7, [.ref q_2, .int 0, .int (-1), .int x_0, .ref q_3, .ref q_4, .ref q_1, .ref q_5, .int 0, .int x_1, .int 0, .int 0, .int 0, .int x_2, .long 0, .int x_3])), (q_1, .inl (k 0, 25, .inl f_0))] := hD
  refine lv_aload_n hx hb dX7_readText_10 rfl (lv_at hl 0 rfl) ?_
  refine lv_iconst (v := 0) hx hb dX7_readText_11 (by decide) ?_
  refine va_put (D := D) (ci := 7) (v := .int 0) (ty := .int) (C := RX7) (T := TX7) (N := 16) hx hb hts inX7 tyX7 tyX7_ok nmX7 hown hK hP hD hS 0 rfl rfl 9 (by decide) (hts _ kF_X7_37) (fun _ h9 => h9) rfl (by decide +kernel) rfl rfl (Nat.le_of_ble_eq_true rfl) dX7_readText_12 (fun H locs hP hD hS => ?_)
  have hP : va_P D vwCl [(q_0, .inr (7, [.ref q_2, .int 0, .int (-1), .int x_0, .ref q_3, .ref q_4, .ref q_1, .ref q_5, .int 0, .int 0, .int 0, .int 0, .int 0, .int x_2, .long 0, .int x_3])), (q_1, .inl (k 0, 25, .inl f_0))] H := hP
  have hD : va_D A [(q_0, .inr (7, [.ref q_2, .int 0, .int (-1), .int x_0, .ref q_3, .ref q_4, .ref q_1, .ref q_5, .int 0, .int 0, .int 0, .int 0, .int 0, .int x_2, .long 0, .int x_3])), (q_1, .inl (k 0, 25, .inl f_0))] := hD
  refine lv_aload_n hx hb dX7_readText_15 rfl (lv_at hl 0 rfl) ?_
  refine lv_iconst (v := 0) hx hb dX7_readText_16 (by decide) ?_
  refine va_put (D := D) (ci := 7) (v := .int 0) (ty := .int) (C := RX7) (T := TX7) (N := 16) hx hb hts inX7 tyX7 tyX7_ok nmX7 hown hK hP hD hS 0 rfl rfl 12 (by decide) (hts _ kF_X7_40) (fun _ h9 => h9) rfl (by decide +kernel) rfl rfl (Nat.le_of_ble_eq_true rfl) dX7_readText_17 (fun H locs hP hD hS => ?_)
  have hP : va_P D vwCl [(q_0, .inr (7, [.ref q_2, .int 0, .int (-1), .int x_0, .ref q_3, .ref q_4, .ref q_1, .ref q_5, .int 0, .int 0, .int 0, .int 0, .int 0, .int x_2, .long 0, .int x_3])), (q_1, .inl (k 0, 25, .inl f_0))] H := hP
  have hD : va_D A [(q_0, .inr (7, [.ref q_2, .int 0, .int (-1), .int x_0, .ref q_3, .ref q_4, .ref q_1, .ref q_5, .int 0, .int 0, .int 0, .int 0, .int 0, .int x_2, .long 0, .int x_3])), (q_1, .inl (k 0, 25, .inl f_0))] := hD
  refine lv_aload_n hx hb dX7_readText_20 rfl (lv_at hl 0 rfl) ?_
  refine z_bv (wr := [(q_1, .inl (k 0, 25, .inl f_0))]) (z_runV (C := RX7) (As := []) (rest := []) C0 (c_X7_nextToken_1 l D k q_0 q_2 q_3 q_4 q_1 q_5 (-1) x_0 0 0 0 0 x_2 0 x_3 _) okV_X7_nextToken kM_X7_43 rfl (z_pV (q0 := 0) hK hN hP hD [0] rfl rfl rfl rfl rfl) rfl hl.1 rfl (Nat.le_of_ble_eq_true rfl) dX7_readText_21 rfl) hP hD hS hA [0] [1] rfl rfl rfl rfl (fun u1 H locs hw1 hP hD hS => ?_)
  obtain ⟨i1, a1⟩ := u1
  dsimp only at hw1
  obtain rfl := hw1
  have hP : va_P D vwCl [(q_1, .inl (k 0, 25, .inl f_0)), (q_0, .inr (7, [.ref q_2, .int 0, .int (-1), .int x_0, .ref q_3, .ref q_4, .ref q_1, .ref q_5, .int 0, .int 0, .int 0, .int 0, .int 0, .int 0, .long 0, .int x_3]))] H := hP
  have hD : va_D A [(q_1, .inl (k 0, 25, .inl f_0)), (q_0, .inr (7, [.ref q_2, .int 0, .int (-1), .int x_0, .ref q_3, .ref q_4, .ref q_1, .ref q_5, .int 0, .int 0, .int 0, .int 0, .int 0, .int 0, .long 0, .int x_3]))] := hD
  refine lv_iconst (v := 1) hx hb dX7_readText_24 (by decide) ?_
  refine lv_istore_n (lv' := [(1, .int 1), (0, .ref q_0)]) hx hb dX7_readText_25 rfl hl (by decide) rfl (fun ls hl => ?_)
  refine lv_iconst (v := 0) hx hb dX7_readText_26 (by decide) ?_
  refine lv_istore_n (lv' := [(2, .int 0), (1, .int 1), (0, .ref q_0)]) hx hb dX7_readText_27 rfl hl (by decide) rfl (fun ls hl => ?_)
  refine lv_iload_n hx hb dX7_readText_28 rfl (lv_at hl 0 rfl) ?_
  refine lv_bipush (v := 12) hx hb dX7_readText_29 (by decide) ?_
  refine lv_icmp_ge (tgt := 185) hx hb dX7_readText_31 (by decide) (fun c2 => absurd c2 (by decide)) (fun _ => ?_)
  refine lv_iload_n hx hb dX7_readText_34 rfl (lv_at hl 1 rfl) ?_
  refine lv_if_eq (tgt := 185) hx hb dX7_readText_35 (by decide) (fun c3 => absurd c3 (by decide)) (fun _ => ?_)
  refine lv_aload_n hx hb dX7_readText_38 rfl (lv_at hl 2 rfl) ?_
  refine lv_iload_n hx hb dX7_readText_39 rfl (lv_at hl 0 rfl) ?_
  refine va_put (D := D) (ci := 7) (v := .int 0) (ty := .int) (C := RX7) (T := TX7) (N := 16) hx hb hts inX7 tyX7 tyX7_ok nmX7 hown hK hP hD hS 1 rfl rfl 3 (by decide) (hts _ kF_X7_46) (fun _ h9 => h9) rfl (by decide +kernel) rfl rfl (Nat.le_of_ble_eq_true rfl) dX7_readText_40 (fun H locs hP hD hS => ?_)
  have hP : va_P D vwCl [(q_1, .inl (k 0, 25, .inl f_0)), (q_0, .inr (7, [.ref q_2, .int 0, .int (-1), .int 0, .ref q_3, .ref q_4, .ref q_1, .ref q_5, .int 0, .int 0, .int 0, .int 0, .int 0, .int 0, .long 0, .int x_3]))] H := hP
  have hD : va_D A [(q_1, .inl (k 0, 25, .inl f_0)), (q_0, .inr (7, [.ref q_2, .int 0, .int (-1), .int 0, .ref q_3, .ref q_4, .ref q_1, .ref q_5, .int 0, .int 0, .int 0, .int 0, .int 0, .int 0, .long 0, .int x_3]))] := hD
  refine lv_aload_n hx hb dX7_readText_43 rfl (lv_at hl 2 rfl) ?_
  refine va_get (D := D) (ci := 7) (v := .ref q_1) (C := RX7) (T := TX7) (N := 16) hx hb hts inX7 hown hK hP 1 rfl rfl 6 (by decide) (hts _ kF_X7_25) (fun _ h9 => h9) rfl dX7_readText_44 ?_
  refine lv_iconst (v := 2) hx hb dX7_readText_47 (by decide) ?_
  refine lv_iload_n hx hb dX7_readText_48 rfl (lv_at hl 0 rfl) ?_
  refine lv_imul hx hb dX7_readText_49 ?_
  refine lv_toc (v := 0) (by decide) ?_
  refine lv_aload_n hx hb dX7_readText_50 rfl (lv_at hl 2 rfl) ?_
  refine va_get (D := D) (ci := 7) (v := .int 0) (C := RX7) (T := TX7) (N := 16) hx hb hts inX7 hown hK hP 1 rfl rfl 8 (by decide) (hts _ kF_X7_34) (fun _ h9 => h9) rfl dX7_readText_51 ?_
  refine va_iast hx hb hK hP hD hS 0 0 rfl rfl (by unfold vp_in; decide) dX7_readText_54 (fun H locs hP hD hS => ?_)
  have hP : va_P D vwCl [(q_1, .inl (k 0, 25, .inl (upd f_0 0 0))), (q_0, .inr (7, [.ref q_2, .int 0, .int (-1), .int 0, .ref q_3, .ref q_4, .ref q_1, .ref q_5, .int 0, .int 0, .int 0, .int 0, .int 0, .int 0, .long 0, .int x_3]))] H := hP
  have hD : va_D A [(q_1, .inl (k 0, 25, .inl (upd f_0 0 0))), (q_0, .inr (7, [.ref q_2, .int 0, .int (-1), .int 0, .ref q_3, .ref q_4, .ref q_1, .ref q_5, .int 0, .int 0, .int 0, .int 0, .int 0, .int 0, .long 0, .int x_3]))] := hD
  refine lv_aload_n hx hb dX7_readText_55 rfl (lv_at hl 2 rfl) ?_
  refine z_bv (wr := [(q_1, .inl (k 0, 25, .inl (upd f_0 0 0)))]) (z_runV (C := RX7) (As := []) (rest := []) C0 (c_X7_readHead_1 l D k q_0 q_2 q_3 q_4 q_1 q_5 0 0 0 0 0 0 0 x_3 _) okV_X7_readHead kM_X7_49 rfl (z_pV (q0 := 1) hK hN hP hD [1] rfl rfl rfl rfl rfl) rfl hl.1 rfl (Nat.le_of_ble_eq_true rfl) dX7_readText_56 rfl) hP hD hS hA [1] [0] rfl rfl rfl rfl (fun u4 H locs hw4 hP hD hS => ?_)
  obtain ⟨i4, a4⟩ := u4
  dsimp only at hw4
  obtain rfl := hw4
  have hP : va_P D vwCl [(q_1, .inl (k 0, 25, .inl (upd f_0 0 0))), (q_0, .inr (7, [.ref q_2, .int 0, .int 0, .int 0, .ref q_3, .ref q_4, .ref q_1, .ref q_5, .int 0, .int 0, .int 0, .int 0, .int 0, .int 0, .long 0, .int x_3]))] H := hP
  have hD : va_D A [(q_1, .inl (k 0, 25, .inl (upd f_0 0 0))), (q_0, .inr (7, [.ref q_2, .int 0, .int 0, .int 0, .ref q_3, .ref q_4, .ref q_1, .ref q_5, .int 0, .int 0, .int 0, .int 0, .int 0, .int 0, .long 0, .int x_3]))] := hD
  refine lv_aload_n hx hb dX7_readText_59 rfl (lv_at hl 2 rfl) ?_
  refine va_get (D := D) (ci := 7) (v := .ref q_1) (C := RX7) (T := TX7) (N := 16) hx hb hts inX7 hown hK hP 1 rfl rfl 6 (by decide) (hts _ kF_X7_25) (fun _ h9 => h9) rfl dX7_readText_60 ?_
  refine lv_iconst (v := 2) hx hb dX7_readText_63 (by decide) ?_
  refine lv_iload_n hx hb dX7_readText_64 rfl (lv_at hl 0 rfl) ?_
  refine lv_imul hx hb dX7_readText_65 ?_
  refine lv_toc (v := 0) (by decide) ?_
  refine lv_iconst (v := 1) hx hb dX7_readText_66 (by decide) ?_
  refine lv_iadd hx hb dX7_readText_67 ?_
  refine lv_toc (v := 1) (by decide) ?_
  refine lv_aload_n hx hb dX7_readText_68 rfl (lv_at hl 2 rfl) ?_
  refine va_get (D := D) (ci := 7) (v := .int 0) (C := RX7) (T := TX7) (N := 16) hx hb hts inX7 hown hK hP 1 rfl rfl 8 (by decide) (hts _ kF_X7_34) (fun _ h9 => h9) rfl dX7_readText_69 ?_
  refine va_iast hx hb hK hP hD hS 0 0 rfl rfl (by unfold vp_in; decide) dX7_readText_72 (fun H locs hP hD hS => ?_)
  have hP : va_P D vwCl [(q_1, .inl (k 0, 25, .inl (upd (upd f_0 0 0) 1 0))), (q_0, .inr (7, [.ref q_2, .int 0, .int 0, .int 0, .ref q_3, .ref q_4, .ref q_1, .ref q_5, .int 0, .int 0, .int 0, .int 0, .int 0, .int 0, .long 0, .int x_3]))] H := hP
  have hD : va_D A [(q_1, .inl (k 0, 25, .inl (upd (upd f_0 0 0) 1 0))), (q_0, .inr (7, [.ref q_2, .int 0, .int 0, .int 0, .ref q_3, .ref q_4, .ref q_1, .ref q_5, .int 0, .int 0, .int 0, .int 0, .int 0, .int 0, .long 0, .int x_3]))] := hD
  refine lv_aload_n hx hb dX7_readText_73 rfl (lv_at hl 2 rfl) ?_
  refine va_get (D := D) (ci := 7) (v := .int 0) (C := RX7) (T := TX7) (N := 16) hx hb hts inX7 hown hK hP 1 rfl rfl 2 (by decide) (hts _ kF_X7_15) (fun _ h9 => h9) rfl dX7_readText_74 ?_
  refine lv_iconst (v := (-1)) hx hb dX7_readText_77 (by decide) ?_
  refine lv_icmp_ne (tgt := 113) hx hb dX7_readText_78 (by decide) (fun _ => ?_) (fun c5 => absurd c5 (by decide))
  refine lv_aload_n hx hb dX7_readText_113 rfl (lv_at hl 2 rfl) ?_
  refine va_get (D := D) (ci := 7) (v := .ref q_1) (C := RX7) (T := TX7) (N := 16) hx hb hts inX7 hown hK hP 1 rfl rfl 6 (by decide) (hts _ kF_X7_25) (fun _ h9 => h9) rfl dX7_readText_114 ?_
  refine lv_iconst (v := 2) hx hb dX7_readText_117 (by decide) ?_
  refine lv_iload_n hx hb dX7_readText_118 rfl (lv_at hl 0 rfl) ?_
  refine lv_imul hx hb dX7_readText_119 ?_
  refine lv_toc (v := 0) (by decide) ?_
  refine lv_iconst (v := 2) hx hb dX7_readText_120 (by decide) ?_
  refine lv_iadd hx hb dX7_readText_121 ?_
  refine lv_toc (v := 2) (by decide) ?_
  refine lv_aload_n hx hb dX7_readText_122 rfl (lv_at hl 2 rfl) ?_
  refine va_get (D := D) (ci := 7) (v := .int 0) (C := RX7) (T := TX7) (N := 16) hx hb hts inX7 hown hK hP 1 rfl rfl 8 (by decide) (hts _ kF_X7_34) (fun _ h9 => h9) rfl dX7_readText_123 ?_
  refine va_iast hx hb hK hP hD hS 0 0 rfl rfl (by unfold vp_in; decide) dX7_readText_126 (fun H locs hP hD hS => ?_)
  have hP : va_P D vwCl [(q_1, .inl (k 0, 25, .inl (upd (upd (upd f_0 0 0) 1 0) 2 0))), (q_0, .inr (7, [.ref q_2, .int 0, .int 0, .int 0, .ref q_3, .ref q_4, .ref q_1, .ref q_5, .int 0, .int 0, .int 0, .int 0, .int 0, .int 0, .long 0, .int x_3]))] H := hP
  have hD : va_D A [(q_1, .inl (k 0, 25, .inl (upd (upd (upd f_0 0 0) 1 0) 2 0))), (q_0, .inr (7, [.ref q_2, .int 0, .int 0, .int 0, .ref q_3, .ref q_4, .ref q_1, .ref q_5, .int 0, .int 0, .int 0, .int 0, .int 0, .int 0, .long 0, .int x_3]))] := hD
  refine lv_aload_n hx hb dX7_readText_127 rfl (lv_at hl 2 rfl) ?_
  refine lv_iload_n hx hb dX7_readText_128 rfl (lv_at hl 0 rfl) ?_
  refine lv_iconst (v := 1) hx hb dX7_readText_129 (by decide) ?_
  refine lv_iadd hx hb dX7_readText_130 ?_
  refine lv_toc (v := 1) (by decide) ?_
  refine va_put (D := D) (ci := 7) (v := .int 1) (ty := .int) (C := RX7) (T := TX7) (N := 16) hx hb hts inX7 tyX7 tyX7_ok nmX7 hown hK hP hD hS 1 rfl rfl 3 (by decide) (hts _ kF_X7_46) (fun _ h9 => h9) rfl (by decide +kernel) rfl rfl (Nat.le_of_ble_eq_true rfl) dX7_readText_131 (fun H locs hP hD hS => ?_)
  have hP : va_P D vwCl [(q_1, .inl (k 0, 25, .inl (upd (upd (upd f_0 0 0) 1 0) 2 0))), (q_0, .inr (7, [.ref q_2, .int 0, .int 0, .int 1, .ref q_3, .ref q_4, .ref q_1, .ref q_5, .int 0, .int 0, .int 0, .int 0, .int 0, .int 0, .long 0, .int x_3]))] H := hP
  have hD : va_D A [(q_1, .inl (k 0, 25, .inl (upd (upd (upd f_0 0 0) 1 0) 2 0))), (q_0, .inr (7, [.ref q_2, .int 0, .int 0, .int 1, .ref q_3, .ref q_4, .ref q_1, .ref q_5, .int 0, .int 0, .int 0, .int 0, .int 0, .int 0, .long 0, .int x_3]))] := hD
  refine lv_aload_n hx hb dX7_readText_134 rfl (lv_at hl 2 rfl) ?_
  refine va_get (D := D) (ci := 7) (v := .int 0) (C := RX7) (T := TX7) (N := 16) hx hb hts inX7 hown hK hP 1 rfl rfl 2 (by decide) (hts _ kF_X7_15) (fun _ h9 => h9) rfl dX7_readText_135 ?_
  refine lv_iconst (v := (-1)) hx hb dX7_readText_138 (by decide) ?_
  refine lv_icmp_ne (tgt := 155) hx hb dX7_readText_139 (by decide) (fun _ => ?_) (fun c6 => absurd c6 (by decide))
  refine lv_iconst (v := 0) hx hb dX7_readText_155 (by decide) ?_
  refine lv_istore_n (lv' := [(1, .int 0), (2, .int 0), (0, .ref q_0)]) hx hb dX7_readText_156 rfl hl (by decide) rfl (fun ls hl => ?_)
  refine lv_iload_n hx hb dX7_readText_157 rfl (lv_at hl 0 rfl) ?_
  refine lv_if_eq (tgt := 168) hx hb dX7_readText_158 (by decide) (fun _ => ?_) (fun c7 => absurd (by decide) c7)
  refine lv_aload_n hx hb dX7_readText_168 rfl (lv_at hl 2 rfl) ?_
  refine va_get (D := D) (ci := 7) (v := .int 0) (C := RX7) (T := TX7) (N := 16) hx hb hts inX7 hown hK hP 1 rfl rfl 10 (by decide) (hts _ kF_X7_66) (fun _ h9 => h9) rfl dX7_readText_169 ?_
  refine lv_if_eq (tgt := 179) hx hb dX7_readText_172 (by decide) (fun _ => ?_) (fun c8 => absurd (by decide) c8)
  refine lv_iinc (v := 1) (lv' := [(2, .int 1), (1, .int 0), (0, .ref q_0)]) hx hb dX7_readText_179 hl (k := 1) rfl (by decide) (by decide) rfl (fun ls hl => ?_)
  refine lv_goto (tgt := 28) hx hb dX7_readText_182 (by decide) ?_
  refine lv_iload_n hx hb dX7_readText_28 rfl (lv_at hl 0 rfl) ?_
  refine lv_bipush (v := 12) hx hb dX7_readText_29 (by decide) ?_
  refine lv_icmp_ge (tgt := 185) hx hb dX7_readText_31 (by decide) (fun c9 => absurd c9 (by decide)) (fun _ => ?_)
  refine lv_iload_n hx hb dX7_readText_34 rfl (lv_at hl 1 rfl) ?_
  refine lv_if_eq (tgt := 185) hx hb dX7_readText_35 (by decide) (fun _ => ?_) (fun c10 => absurd (by decide) c10)
  refine lv_iload_n hx hb dX7_readText_185 rfl (lv_at hl 1 rfl) ?_
  refine lv_if_eq (tgt := 193) hx hb dX7_readText_186 (by decide) (fun _ => ?_) (fun c11 => absurd (by decide) c11)
  refine lv_aload_n hx hb dX7_readText_193 rfl (lv_at hl 2 rfl) ?_
  refine lv_iconst (v := 0) hx hb dX7_readText_194 (by decide) ?_
  refine va_put (D := D) (ci := 7) (v := .int 0) (ty := .int) (C := RX7) (T := TX7) (N := 16) hx hb hts inX7 tyX7 tyX7_ok nmX7 hown hK hP hD hS 1 rfl rfl 1 (by decide) (hts _ kF_X7_31) (fun _ h9 => h9) rfl (by decide +kernel) rfl rfl (Nat.le_of_ble_eq_true rfl) dX7_readText_195 (fun H locs hP hD hS => ?_)
  have hP : va_P D vwCl [(q_1, .inl (k 0, 25, .inl (upd (upd (upd f_0 0 0) 1 0) 2 0))), (q_0, .inr (7, [.ref q_2, .int 0, .int 0, .int 1, .ref q_3, .ref q_4, .ref q_1, .ref q_5, .int 0, .int 0, .int 0, .int 0, .int 0, .int 0, .long 0, .int x_3]))] H := hP
  have hD : va_D A [(q_1, .inl (k 0, 25, .inl (upd (upd (upd f_0 0 0) 1 0) 2 0))), (q_0, .inr (7, [.ref q_2, .int 0, .int 0, .int 1, .ref q_3, .ref q_4, .ref q_1, .ref q_5, .int 0, .int 0, .int 0, .int 0, .int 0, .int 0, .long 0, .int x_3]))] := hD
  refine lv_aload_n hx hb dX7_readText_198 rfl (lv_at hl 2 rfl) ?_
  refine va_get (D := D) (ci := 7) (v := .int 0) (C := RX7) (T := TX7) (N := 16) hx hb hts inX7 hown hK hP 1 rfl rfl 2 (by decide) (hts _ kF_X7_15) (fun _ h9 => h9) rfl dX7_readText_199 ?_
  refine lv_iconst (v := (-1)) hx hb dX7_readText_202 (by decide) ?_
  refine lv_icmp_ne (tgt := 217) hx hb dX7_readText_203 (by decide) (fun _ => ?_) (fun c12 => absurd c12 (by decide))
  refine lv_null hx hb dX7_readText_217 ?_
  exact z_qret (o := none) C0 hr (Or.inl ⟨_, rfl⟩) hlk rfl hK hP hD hS (0, fun _ => 0) ⟨rfl, rfl⟩ [1, 0] rfl rfl rfl dX7_readText_218

set_option maxHeartbeats 4000000 in
set_option maxRecDepth 100000 in
theorem c_X11_answer_5 (l : Launch) (D : va_G) (k : Nat → ClassId) (q_0 : Nat) (q_1 : Nat) (q_2 : Nat) (q_3 : Nat) (q_4 : Nat) (q_5 : Nat) (x_0 : Int32) : zMi l yX11_answer cX11_answer 2 (some .int) ({ frames := 0, cells := 0, slots := 0, locals := 0 }) D k [.ref q_0, .int (-6)] [(q_0, .inr (11, [.ref q_1, .ref q_2, .ref q_3, .ref q_4, .ref q_5, .int x_0]))] (fun r u => u.1 = 0 ∧ r = (-6)) (fun u => [(q_0, .inr (11, [.ref q_1, .ref q_2, .ref q_3, .ref q_4, .ref q_5, .int (-6)]))]) := by
  refine zMi_of (own := RX11) (by decide +kernel) rfl (Nat.le_of_ble_eq_true rfl) ?_
  intro p e s m args below meth c A ls C0 hr hlk hin hP hD hS hA hK hN hl
  have hx := C0.1
  have hb := C0.2.1
  have hml := C0.2.2.1
  have hown := C0.2.2.2.1
  have hts := C0.2.2.2.2
  have hl : lv_has ls 2 [(0, .ref q_0), (1, .int (-6))] := hl
  have hP : va_P D vwCl [(q_0, .inr (11, [.ref q_1, .ref q_2, .ref q_3, .ref q_4, .ref q_5, .int x_0]))] s.heap := hP
  refine lv_aload_n hx hb dX11_answer_0 rfl (lv_at hl 0 rfl) ?_
  refine lv_iload_n hx hb dX11_answer_1 rfl (lv_at hl 1 rfl) ?_
  refine lv_if_ge (tgt := 9) hx hb dX11_answer_2 (by decide) (fun c1 => absurd c1 (by decide)) (fun _ => ?_)
  refine lv_iload_n hx hb dX11_answer_5 rfl (lv_at hl 1 rfl) ?_
  refine lv_goto (tgt := 10) hx hb dX11_answer_6 (by decide) ?_
  refine va_put (D := D) (ci := 11) (v := .int (-6)) (ty := .int) (C := RX11) (T := TX11) (N := 6) hx hb hts inX11 tyX11 tyX11_ok nmX11 hown hK hP hD hS 0 rfl rfl 5 (by decide) (hts _ kF_X11_383) (fun _ h9 => h9) rfl (by decide +kernel) rfl rfl (Nat.le_of_ble_eq_true rfl) dX11_answer_10 (fun H locs hP hD hS => ?_)
  have hP : va_P D vwCl [(q_0, .inr (11, [.ref q_1, .ref q_2, .ref q_3, .ref q_4, .ref q_5, .int (-6)]))] H := hP
  have hD : va_D A [(q_0, .inr (11, [.ref q_1, .ref q_2, .ref q_3, .ref q_4, .ref q_5, .int (-6)]))] := hD
  refine lv_iload_n hx hb dX11_answer_13 rfl (lv_at hl 1 rfl) ?_
  exact z_iret C0 hr hlk rfl hK hP hD hS (0, fun _ => 0) ⟨rfl, rfl⟩ [0] rfl rfl rfl dX11_answer_14

set_option maxHeartbeats 4000000 in
set_option maxRecDepth 100000 in
theorem c_X11_act_1 (l : Launch) (D : va_G) (k : Nat → ClassId) (q_0 : Nat) (q_1 : Nat) (q_2 : Nat) (q_3 : Nat) (q_4 : Nat) (q_5 : Nat) (q_6 : Nat) (q_7 : Nat) (q_8 : Nat) (q_9 : Nat) (q_10 : Nat) (q_11 : Nat) (q_12 : Nat) (q_13 : Nat) (q_14 : Nat) (q_15 : Nat) (q_16 : Nat) (q_17 : Nat) (q_18 : Nat) (x_0 : Int32) (x_1 : Int32) (x_2 : Int32) (x_3 : Int32) (x_4 : Int32) (x_5 : Int32) (f_0 : Nat → Int32) : zMi l yX11_act cX11_act 3 (some .int) ({ frames := 3, cells := 0, slots := 0, locals := 63 }) D k [.ref q_0, .int x_0] [(q_0, .inr (11, [.ref q_1, .ref q_5, .ref q_3, .ref q_6, .ref q_7, .int x_1])), (q_1, .inr (3, [.ref q_8, .ref q_9, .ref q_10, .ref q_2, .ref q_11, .ref q_12])), (q_2, .inr (0, [.int 0, .ref q_13, .ref q_14])), (q_3, .inr (7, [.ref q_15, .int 0, .int (-1), .int x_2, .ref q_16, .ref q_17, .ref q_4, .ref q_18, .int 0, .int x_3, .int 0, .int 0, .int 0, .int x_4, .long 0, .int x_5])), (q_4, .inl (k 0, 25, .inl f_0))] (fun r u => (u.1 = 0 ∧ r = (-1) ∧ ((((x_0 < 0) ∨ (¬ x_0 < 0 ∧ ¬ x_0 < 400))))) ∨ (u.1 = 1 ∧ r = (-6) ∧ ((((¬ x_0 < 0 ∧ x_0 < 400)))))) (fun u => []) := by
  refine zMi_of (own := RX11) (by decide +kernel) rfl (Nat.le_of_ble_eq_true rfl) ?_
  intro p e s m args below meth c A ls C0 hr hlk hin hP hD hS hA hK hN hl
  have hx := C0.1
  have hb := C0.2.1
  have hml := C0.2.2.1
  have hown := C0.2.2.2.1
  have hts := C0.2.2.2.2
  have hl : lv_has ls 3 [(0, .ref q_0), (1, .int x_0)] := hl
  have hP : va_P D vwCl [(q_0, .inr (11, [.ref q_1, .ref q_5, .ref q_3, .ref q_6, .ref q_7, .int x_1])), (q_1, .inr (3, [.ref q_8, .ref q_9, .ref q_10, .ref q_2, .ref q_11, .ref q_12])), (q_2, .inr (0, [.int 0, .ref q_13, .ref q_14])), (q_3, .inr (7, [.ref q_15, .int 0, .int (-1), .int x_2, .ref q_16, .ref q_17, .ref q_4, .ref q_18, .int 0, .int x_3, .int 0, .int 0, .int 0, .int x_4, .long 0, .int x_5])), (q_4, .inl (k 0, 25, .inl f_0))] s.heap := hP
  refine lv_iload_n hx hb dX11_act_0 rfl (lv_at hl 1 rfl) ?_
  refine z_bi0 (z_runS (As := [.int x_0]) (rest := []) C0 (c_X11_isNoDay_1 l D k x_0 _) okS_X11_isNoDay kM_X11_72 rfl (z_p0 hK hN) rfl hl.1 rfl (Nat.le_of_ble_eq_true rfl) dX11_act_1 rfl) hP hS hA (fun r1 u1 H locs hw1 hP hS => ?_)
  obtain ⟨i1, a1⟩ := u1
  dsimp only at hw1
  rcases hw1 with ⟨rfl, rfl, c1⟩ | ⟨rfl, rfl, c1⟩
  · refine lv_if_eq (tgt := 13) hx hb dX11_act_4 (by decide) (fun c2 => absurd c2 (by decide)) (fun _ => ?_)
    refine lv_aload_n hx hb dX11_act_7 rfl (lv_at hl 0 rfl) ?_
    refine lv_iconst (v := (-1)) hx hb dX11_act_8 (by decide) ?_
    refine z_bi (wr := [(q_1, .inr (3, [.ref q_8, .ref q_9, .ref q_10, .ref q_2, .ref q_11, .ref q_12])), (q_2, .inr (0, [.int 0, .ref q_13, .ref q_14])), (q_3, .inr (7, [.ref q_15, .int 0, .int (-1), .int x_2, .ref q_16, .ref q_17, .ref q_4, .ref q_18, .int 0, .int x_3, .int 0, .int 0, .int 0, .int x_4, .long 0, .int x_5])), (q_4, .inl (k 0, 25, .inl f_0))]) (z_runV (C := RX11) (As := [.int (-1)]) (rest := []) C0 (c_X11_answer_1 l D k q_0 q_1 q_5 q_3 q_6 q_7 x_1 _) okV_X11_answer kM_X11_55 rfl (z_pV (q0 := 0) hK hN hP hD [0] rfl rfl rfl rfl rfl) rfl hl.1 rfl (Nat.le_of_ble_eq_true rfl) dX11_act_9 rfl) hP hD hS hA [0] [1, 2, 3, 4] rfl rfl rfl rfl (fun r3 u3 H locs hw3 hP hD hS => ?_)
    obtain ⟨i3, a3⟩ := u3
    dsimp only at hw3
    obtain ⟨rfl, rfl⟩ := hw3
    have hP : va_P D vwCl [(q_1, .inr (3, [.ref q_8, .ref q_9, .ref q_10, .ref q_2, .ref q_11, .ref q_12])), (q_2, .inr (0, [.int 0, .ref q_13, .ref q_14])), (q_3, .inr (7, [.ref q_15, .int 0, .int (-1), .int x_2, .ref q_16, .ref q_17, .ref q_4, .ref q_18, .int 0, .int x_3, .int 0, .int 0, .int 0, .int x_4, .long 0, .int x_5])), (q_4, .inl (k 0, 25, .inl f_0)), (q_0, .inr (11, [.ref q_1, .ref q_5, .ref q_3, .ref q_6, .ref q_7, .int (-1)]))] H := hP
    have hD : va_D A [(q_1, .inr (3, [.ref q_8, .ref q_9, .ref q_10, .ref q_2, .ref q_11, .ref q_12])), (q_2, .inr (0, [.int 0, .ref q_13, .ref q_14])), (q_3, .inr (7, [.ref q_15, .int 0, .int (-1), .int x_2, .ref q_16, .ref q_17, .ref q_4, .ref q_18, .int 0, .int x_3, .int 0, .int 0, .int 0, .int x_4, .long 0, .int x_5])), (q_4, .inl (k 0, 25, .inl f_0)), (q_0, .inr (11, [.ref q_1, .ref q_5, .ref q_3, .ref q_6, .ref q_7, .int (-1)]))] := hD
    exact z_iret C0 hr hlk rfl hK hP hD hS (0, fun _ => 0) (Or.inl ⟨rfl, rfl, c1⟩) [] rfl rfl rfl dX11_act_12
  · refine lv_if_eq (tgt := 13) hx hb dX11_act_4 (by decide) (fun _ => ?_) (fun c4 => absurd (by decide) c4)
    refine lv_aload_n hx hb dX11_act_13 rfl (lv_at hl 0 rfl) ?_
    refine va_get (D := D) (ci := 11) (v := .ref q_1) (C := RX11) (T := TX11) (N := 6) hx hb hts inX11 hown hK hP 0 rfl rfl 0 (by decide) (hts _ kF_X11_12) (fun _ h9 => h9) rfl dX11_act_14 ?_
    refine va_get (D := D) (ci := 3) (v := .ref q_2) (C := RX3) (T := TX3) (N := 6) hx hb hts inX3 hown hK hP 1 rfl rfl 3 (by decide) (hts _ kF_X11_187) (fun _ h9 => h9) rfl dX11_act_17 ?_
    refine va_get (D := D) (ci := 0) (v := .int 0) (C := RX0) (T := TX0) (N := 3) hx hb hts inX0 hown hK hP 2 rfl rfl 0 (by decide) (hts _ kF_X11_191) (fun _ h9 => h9) rfl dX11_act_20 ?_
    refine lv_bipush (v := 20) hx hb dX11_act_23 (by decide) ?_
    refine lv_icmp_lt (tgt := 35) hx hb dX11_act_25 (by decide) (fun _ => ?_) (fun c5 => absurd (by decide) c5)
    refine lv_aload_n hx hb dX11_act_35 rfl (lv_at hl 0 rfl) ?_
    refine va_get (D := D) (ci := 11) (v := .ref q_3) (C := RX11) (T := TX11) (N := 6) hx hb hts inX11 hown hK hP 0 rfl rfl 2 (by decide) (hts _ kF_X11_23) (fun _ h9 => h9) rfl dX11_act_36 ?_
    refine z_bq (wr := [(q_0, .inr (11, [.ref q_1, .ref q_5, .ref q_3, .ref q_6, .ref q_7, .int x_1])), (q_1, .inr (3, [.ref q_8, .ref q_9, .ref q_10, .ref q_2, .ref q_11, .ref q_12])), (q_2, .inr (0, [.int 0, .ref q_13, .ref q_14]))]) (z_runV (C := RX7) (As := []) (rest := []) C0 (c_X7_readText_1 l D k q_3 q_4 q_15 q_16 q_17 q_18 x_2 x_3 x_4 x_5 f_0 _) okV_X7_readText kM_X11_196 rfl (z_pV (q0 := 3) hK hN hP hD [3, 4] rfl rfl rfl rfl rfl) rfl hl.1 rfl (Nat.le_of_ble_eq_true rfl) dX11_act_39 rfl) hP hD hS hA [3, 4] [0, 1, 2] rfl rfl rfl rfl (fun r6 u6 H locs hw6 hP hD hS => ?_)
    obtain ⟨i6, a6⟩ := u6
    dsimp only at hw6
    obtain ⟨rfl, rfl⟩ := hw6
    have hP : va_P D vwCl [(q_0, .inr (11, [.ref q_1, .ref q_5, .ref q_3, .ref q_6, .ref q_7, .int x_1])), (q_1, .inr (3, [.ref q_8, .ref q_9, .ref q_10, .ref q_2, .ref q_11, .ref q_12])), (q_2, .inr (0, [.int 0, .ref q_13, .ref q_14])), (q_3, .inr (7, [.ref q_15, .int 0, .int 0, .int 1, .ref q_16, .ref q_17, .ref q_4, .ref q_18, .int 0, .int 0, .int 0, .int 0, .int 0, .int 0, .long 0, .int x_5])), (q_4, .inl (k 0, 25, .inl (upd (upd (upd f_0 0 0) 1 0) 2 0)))] H := hP
    have hD : va_D A [(q_0, .inr (11, [.ref q_1, .ref q_5, .ref q_3, .ref q_6, .ref q_7, .int x_1])), (q_1, .inr (3, [.ref q_8, .ref q_9, .ref q_10, .ref q_2, .ref q_11, .ref q_12])), (q_2, .inr (0, [.int 0, .ref q_13, .ref q_14])), (q_3, .inr (7, [.ref q_15, .int 0, .int 0, .int 1, .ref q_16, .ref q_17, .ref q_4, .ref q_18, .int 0, .int 0, .int 0, .int 0, .int 0, .int 0, .long 0, .int x_5])), (q_4, .inl (k 0, 25, .inl (upd (upd (upd f_0 0 0) 1 0) 2 0)))] := hD
    refine W.eq (g2 := F0 m 42 ls [.null]) rfl ?_
    refine lv_astore_nN (lv' := [(2, .null), (0, .ref q_0), (1, .int x_0)]) hx hb dX11_act_42 rfl hl (by decide) rfl (fun ls hl => ?_)
    refine lv_aload_nN hx hb dX11_act_43 rfl (lv_at hl 0 rfl) ?_
    refine lv_ifnonnullN hx hb dX11_act_44 ?_
    refine lv_aload_n hx hb dX11_act_47 rfl (lv_at hl 1 rfl) ?_
    refine lv_bipush (v := (-6)) hx hb dX11_act_48 (by decide) ?_
    refine z_bi (wr := [(q_1, .inr (3, [.ref q_8, .ref q_9, .ref q_10, .ref q_2, .ref q_11, .ref q_12])), (q_2, .inr (0, [.int 0, .ref q_13, .ref q_14])), (q_3, .inr (7, [.ref q_15, .int 0, .int 0, .int 1, .ref q_16, .ref q_17, .ref q_4, .ref q_18, .int 0, .int 0, .int 0, .int 0, .int 0, .int 0, .long 0, .int x_5])), (q_4, .inl (k 0, 25, .inl (upd (upd (upd f_0 0 0) 1 0) 2 0)))]) (z_runV (C := RX11) (As := [.int (-6)]) (rest := []) C0 (c_X11_answer_5 l D k q_0 q_1 q_5 q_3 q_6 q_7 x_1 _) okV_X11_answer kM_X11_55 rfl (z_pV (q0 := 0) hK hN hP hD [0] rfl rfl rfl rfl rfl) rfl hl.1 rfl (Nat.le_of_ble_eq_true rfl) dX11_act_50 rfl) hP hD hS hA [0] [1, 2, 3, 4] rfl rfl rfl rfl (fun r7 u7 H locs hw7 hP hD hS => ?_)
    obtain ⟨i7, a7⟩ := u7
    dsimp only at hw7
    obtain ⟨rfl, rfl⟩ := hw7
    have hP : va_P D vwCl [(q_1, .inr (3, [.ref q_8, .ref q_9, .ref q_10, .ref q_2, .ref q_11, .ref q_12])), (q_2, .inr (0, [.int 0, .ref q_13, .ref q_14])), (q_3, .inr (7, [.ref q_15, .int 0, .int 0, .int 1, .ref q_16, .ref q_17, .ref q_4, .ref q_18, .int 0, .int 0, .int 0, .int 0, .int 0, .int 0, .long 0, .int x_5])), (q_4, .inl (k 0, 25, .inl (upd (upd (upd f_0 0 0) 1 0) 2 0))), (q_0, .inr (11, [.ref q_1, .ref q_5, .ref q_3, .ref q_6, .ref q_7, .int (-6)]))] H := hP
    have hD : va_D A [(q_1, .inr (3, [.ref q_8, .ref q_9, .ref q_10, .ref q_2, .ref q_11, .ref q_12])), (q_2, .inr (0, [.int 0, .ref q_13, .ref q_14])), (q_3, .inr (7, [.ref q_15, .int 0, .int 0, .int 1, .ref q_16, .ref q_17, .ref q_4, .ref q_18, .int 0, .int 0, .int 0, .int 0, .int 0, .int 0, .long 0, .int x_5])), (q_4, .inl (k 0, 25, .inl (upd (upd (upd f_0 0 0) 1 0) 2 0))), (q_0, .inr (11, [.ref q_1, .ref q_5, .ref q_3, .ref q_6, .ref q_7, .int (-6)]))] := hD
    exact z_iret C0 hr hlk rfl hK hP hD hS (1, fun _ => 0) (Or.inr (⟨rfl, rfl, c1⟩)) [] rfl rfl rfl dX11_act_53

set_option maxHeartbeats 4000000 in
set_option maxRecDepth 100000 in
theorem c_X12_told_5 (l : Launch) (D : va_G) (k : Nat → ClassId) (q_0 : Nat) (q_1 : Nat) (q_2 : Nat) (q_3 : Nat) (q_4 : Nat) (q_5 : Nat) (q_6 : Nat) (q_7 : Nat) (q_8 : Nat) (q_9 : Nat) (q_10 : Nat) (q_11 : Nat) (q_12 : Nat) (q_13 : Nat) (q_14 : Nat) (q_15 : Nat) (q_16 : Nat) (q_17 : Nat) (q_18 : Nat) (q_19 : Nat) (q_20 : Nat) (q_21 : Nat) (q_22 : Nat) (q_23 : Nat) (q_24 : Nat) (q_25 : Nat) (x_0 : Int32) (x_1 : Int32) (x_2 : Int32) (x_3 : Int32) (x_4 : Int32) (x_5 : Int32) (x_6 : Int32) (g_7 : Int64) (x_8 : Int32) (x_9 : Int32) (x_10 : Int32) (x_11 : Int32) (x_12 : Int32) (x_13 : Int32) (x_14 : Int32) (x_15 : Int32) (g_16 : Int64) (g_17 : Int64) (x_18 : Int32) (x_19 : Int32) (x_20 : Int32) (x_21 : Int32) (x_22 : Int32) (x_23 : Int32) (x_24 : Int32) (x_25 : Int32) (x_26 : Int32) (x_27 : Int32) (x_28 : Int32) (x_29 : Int32) (x_30 : Int32) : zMi l yX12_told cX12_told 2 (some .int) ({ frames := 0, cells := 0, slots := 0, locals := 0 }) D k [.ref q_0, .int (-5)] [(q_0, .inr (12, [.int x_0, .int x_1, .ref q_1, .ref q_2, .ref q_3, .int x_2, .ref q_4, .ref q_5, .ref q_6, .ref q_7, .ref q_8, .int x_3, .int x_4, .int x_5, .int x_6, .long g_7, .int x_8, .int x_9, .int x_10, .ref q_9, .int x_11, .ref q_10, .ref q_11, .int x_12, .ref q_12, .ref q_13, .int x_13, .int x_14, .ref q_14, .ref q_15, .ref q_16, .ref q_17, .int x_15, .long g_16, .long g_17, .int x_18, .int x_19, .int x_20, .int x_21, .ref q_18, .ref q_19, .int x_22, .int x_23, .int x_24, .int x_25, .ref q_20, .ref q_21, .int x_26, .int x_27, .ref q_22, .ref q_23, .ref q_24, .ref q_25, .int x_28, .int x_29, .int x_30]))] (fun r u => u.1 = 0 ∧ r = (-5)) (fun u => [(q_0, .inr (12, [.int x_0, .int (-5), .ref q_1, .ref q_2, .ref q_3, .int x_2, .ref q_4, .ref q_5, .ref q_6, .ref q_7, .ref q_8, .int x_3, .int x_4, .int x_5, .int x_6, .long g_7, .int x_8, .int x_9, .int x_10, .ref q_9, .int x_11, .ref q_10, .ref q_11, .int x_12, .ref q_12, .ref q_13, .int x_13, .int x_14, .ref q_14, .ref q_15, .ref q_16, .ref q_17, .int x_15, .long g_16, .long g_17, .int x_18, .int x_19, .int x_20, .int x_21, .ref q_18, .ref q_19, .int x_22, .int x_23, .int x_24, .int x_25, .ref q_20, .ref q_21, .int x_26, .int x_27, .ref q_22, .ref q_23, .ref q_24, .ref q_25, .int x_28, .int x_29, .int x_30]))]) := by
  refine zMi_of (own := RX12) (by decide +kernel) rfl (Nat.le_of_ble_eq_true rfl) ?_
  intro p e s m args below meth c A ls C0 hr hlk hin hP hD hS hA hK hN hl
  have hx := C0.1
  have hb := C0.2.1
  have hml := C0.2.2.1
  have hown := C0.2.2.2.1
  have hts := C0.2.2.2.2
  have hl : lv_has ls 2 [(0, .ref q_0), (1, .int (-5))] := hl
  have hP : va_P D vwCl [(q_0, .inr (12, [.int x_0, .int x_1, .ref q_1, .ref q_2, .ref q_3, .int x_2, .ref q_4, .ref q_5, .ref q_6, .ref q_7, .ref q_8, .int x_3, .int x_4, .int x_5, .int x_6, .long g_7, .int x_8, .int x_9, .int x_10, .ref q_9, .int x_11, .ref q_10, .ref q_11, .int x_12, .ref q_12, .ref q_13, .int x_13, .int x_14, .ref q_14, .ref q_15, .ref q_16, .ref q_17, .int x_15, .long g_16, .long g_17, .int x_18, .int x_19, .int x_20, .int x_21, .ref q_18, .ref q_19, .int x_22, .int x_23, .int x_24, .int x_25, .ref q_20, .ref q_21, .int x_26, .int x_27, .ref q_22, .ref q_23, .ref q_24, .ref q_25, .int x_28, .int x_29, .int x_30]))] s.heap := hP
  refine lv_aload_n hx hb dX12_told_0 rfl (lv_at hl 0 rfl) ?_
  refine lv_iload_n hx hb dX12_told_1 rfl (lv_at hl 1 rfl) ?_
  refine lv_if_ge (tgt := 9) hx hb dX12_told_2 (by decide) (fun c1 => absurd c1 (by decide)) (fun _ => ?_)
  refine lv_iload_n hx hb dX12_told_5 rfl (lv_at hl 1 rfl) ?_
  refine lv_goto (tgt := 10) hx hb dX12_told_6 (by decide) ?_
  refine va_put (D := D) (ci := 12) (v := .int (-5)) (ty := .int) (C := RX12) (T := TX12) (N := 56) hx hb hts inX12 tyX12 tyX12_ok nmX12 hown hK hP hD hS 0 rfl rfl 1 (by decide) (hts _ kF_X12_95) (fun _ h9 => h9) rfl (by decide +kernel) rfl rfl (Nat.le_of_ble_eq_true rfl) dX12_told_10 (fun H locs hP hD hS => ?_)
  have hP : va_P D vwCl [(q_0, .inr (12, [.int x_0, .int (-5), .ref q_1, .ref q_2, .ref q_3, .int x_2, .ref q_4, .ref q_5, .ref q_6, .ref q_7, .ref q_8, .int x_3, .int x_4, .int x_5, .int x_6, .long g_7, .int x_8, .int x_9, .int x_10, .ref q_9, .int x_11, .ref q_10, .ref q_11, .int x_12, .ref q_12, .ref q_13, .int x_13, .int x_14, .ref q_14, .ref q_15, .ref q_16, .ref q_17, .int x_15, .long g_16, .long g_17, .int x_18, .int x_19, .int x_20, .int x_21, .ref q_18, .ref q_19, .int x_22, .int x_23, .int x_24, .int x_25, .ref q_20, .ref q_21, .int x_26, .int x_27, .ref q_22, .ref q_23, .ref q_24, .ref q_25, .int x_28, .int x_29, .int x_30]))] H := hP
  have hD : va_D A [(q_0, .inr (12, [.int x_0, .int (-5), .ref q_1, .ref q_2, .ref q_3, .int x_2, .ref q_4, .ref q_5, .ref q_6, .ref q_7, .ref q_8, .int x_3, .int x_4, .int x_5, .int x_6, .long g_7, .int x_8, .int x_9, .int x_10, .ref q_9, .int x_11, .ref q_10, .ref q_11, .int x_12, .ref q_12, .ref q_13, .int x_13, .int x_14, .ref q_14, .ref q_15, .ref q_16, .ref q_17, .int x_15, .long g_16, .long g_17, .int x_18, .int x_19, .int x_20, .int x_21, .ref q_18, .ref q_19, .int x_22, .int x_23, .int x_24, .int x_25, .ref q_20, .ref q_21, .int x_26, .int x_27, .ref q_22, .ref q_23, .ref q_24, .ref q_25, .int x_28, .int x_29, .int x_30]))] := hD
  refine lv_iload_n hx hb dX12_told_13 rfl (lv_at hl 1 rfl) ?_
  exact z_iret C0 hr hlk rfl hK hP hD hS (0, fun _ => 0) ⟨rfl, rfl⟩ [0] rfl rfl rfl dX12_told_14

set_option maxHeartbeats 4000000 in
set_option maxRecDepth 100000 in
theorem c_X12_next_1 (l : Launch) (D : va_G) (k : Nat → ClassId) (q_0 : Nat) (q_1 : Nat) (q_2 : Nat) (q_3 : Nat) (q_4 : Nat) (q_5 : Nat) (q_6 : Nat) (q_7 : Nat) (q_8 : Nat) (q_9 : Nat) (q_10 : Nat) (q_11 : Nat) (q_12 : Nat) (q_13 : Nat) (q_14 : Nat) (q_15 : Nat) (q_16 : Nat) (q_17 : Nat) (q_18 : Nat) (q_19 : Nat) (q_20 : Nat) (q_21 : Nat) (q_22 : Nat) (q_23 : Nat) (q_24 : Nat) (q_25 : Nat) (x_0 : Int32) (x_1 : Int32) (x_2 : Int32) (g_3 : Int64) (x_4 : Int32) (x_5 : Int32) (x_6 : Int32) (x_7 : Int32) (x_8 : Int32) (x_9 : Int32) (x_10 : Int32) (x_11 : Int32) (g_12 : Int64) (g_13 : Int64) (x_14 : Int32) (x_15 : Int32) (x_16 : Int32) (x_17 : Int32) (x_18 : Int32) (x_19 : Int32) (x_20 : Int32) (x_21 : Int32) (x_22 : Int32) (x_23 : Int32) (x_24 : Int32) (x_25 : Int32) (x_26 : Int32) : zMv l yX12_next cX12_next 1 none ({ frames := 0, cells := 0, slots := 0, locals := 0 }) D k [.ref q_0] [(q_0, .inr (12, [.int x_0, .int x_1, .ref q_1, .ref q_2, .ref q_3, .int x_2, .ref q_4, .ref q_5, .ref q_6, .ref q_7, .ref q_8, .int 0, .int 0, .int 0, .int 0, .long g_3, .int x_4, .int x_5, .int x_6, .ref q_9, .int x_7, .ref q_10, .ref q_11, .int x_8, .ref q_12, .ref q_13, .int x_9, .int x_10, .ref q_14, .ref q_15, .ref q_16, .ref q_17, .int x_11, .long g_12, .long g_13, .int x_14, .int x_15, .int x_16, .int x_17, .ref q_18, .ref q_19, .int x_18, .int x_19, .int x_20, .int x_21, .ref q_20, .ref q_21, .int x_22, .int x_23, .ref q_22, .ref q_23, .ref q_24, .ref q_25, .int x_24, .int x_25, .int x_26]))] (fun u => u.1 = 0) (fun u => [(q_0, .inr (12, [.int x_0, .int x_1, .ref q_1, .ref q_2, .ref q_3, .int x_2, .ref q_4, .ref q_5, .ref q_6, .ref q_7, .ref q_8, .int 0, .int 0, .int 0, .int 0, .long 0, .int x_4, .int x_5, .int x_6, .ref q_9, .int x_7, .ref q_10, .ref q_11, .int x_8, .ref q_12, .ref q_13, .int x_9, .int x_10, .ref q_14, .ref q_15, .ref q_16, .ref q_17, .int x_11, .long g_12, .long g_13, .int x_14, .int x_15, .int x_16, .int x_17, .ref q_18, .ref q_19, .int x_18, .int x_19, .int x_20, .int x_21, .ref q_20, .ref q_21, .int x_22, .int x_23, .ref q_22, .ref q_23, .ref q_24, .ref q_25, .int x_24, .int x_25, .int x_26]))]) := by
  refine zMv_of (own := RX12) (by decide +kernel) rfl (Nat.le_of_ble_eq_true rfl) ?_
  intro p e s m args below meth c A ls C0 hr hlk hin hP hD hS hA hK hN hl
  have hx := C0.1
  have hb := C0.2.1
  have hml := C0.2.2.1
  have hown := C0.2.2.2.1
  have hts := C0.2.2.2.2
  have hl : lv_has ls 1 [(0, .ref q_0)] := hl
  have hP : va_P D vwCl [(q_0, .inr (12, [.int x_0, .int x_1, .ref q_1, .ref q_2, .ref q_3, .int x_2, .ref q_4, .ref q_5, .ref q_6, .ref q_7, .ref q_8, .int 0, .int 0, .int 0, .int 0, .long g_3, .int x_4, .int x_5, .int x_6, .ref q_9, .int x_7, .ref q_10, .ref q_11, .int x_8, .ref q_12, .ref q_13, .int x_9, .int x_10, .ref q_14, .ref q_15, .ref q_16, .ref q_17, .int x_11, .long g_12, .long g_13, .int x_14, .int x_15, .int x_16, .int x_17, .ref q_18, .ref q_19, .int x_18, .int x_19, .int x_20, .int x_21, .ref q_20, .ref q_21, .int x_22, .int x_23, .ref q_22, .ref q_23, .ref q_24, .ref q_25, .int x_24, .int x_25, .int x_26]))] s.heap := hP
  refine lv_aload_n hx hb dX12_next_0 rfl (lv_at hl 0 rfl) ?_
  refine lv_aload_n hx hb dX12_next_1 rfl (lv_at hl 0 rfl) ?_
  refine va_get (D := D) (ci := 12) (v := .int 0) (C := RX12) (T := TX12) (N := 56) hx hb hts inX12 hown hK hP 0 rfl rfl 13 (by decide) (hts _ kF_X12_199) (fun _ h9 => h9) rfl dX12_next_2 ?_
  refine va_put (D := D) (ci := 12) (v := .int 0) (ty := .int) (C := RX12) (T := TX12) (N := 56) hx hb hts inX12 tyX12 tyX12_ok nmX12 hown hK hP hD hS 0 rfl rfl 12 (by decide) (hts _ kF_X12_209) (fun _ h9 => h9) rfl (by decide +kernel) rfl rfl (Nat.le_of_ble_eq_true rfl) dX12_next_5 (fun H locs hP hD hS => ?_)
  have hP : va_P D vwCl [(q_0, .inr (12, [.int x_0, .int x_1, .ref q_1, .ref q_2, .ref q_3, .int x_2, .ref q_4, .ref q_5, .ref q_6, .ref q_7, .ref q_8, .int 0, .int 0, .int 0, .int 0, .long g_3, .int x_4, .int x_5, .int x_6, .ref q_9, .int x_7, .ref q_10, .ref q_11, .int x_8, .ref q_12, .ref q_13, .int x_9, .int x_10, .ref q_14, .ref q_15, .ref q_16, .ref q_17, .int x_11, .long g_12, .long g_13, .int x_14, .int x_15, .int x_16, .int x_17, .ref q_18, .ref q_19, .int x_18, .int x_19, .int x_20, .int x_21, .ref q_20, .ref q_21, .int x_22, .int x_23, .ref q_22, .ref q_23, .ref q_24, .ref q_25, .int x_24, .int x_25, .int x_26]))] H := hP
  have hD : va_D A [(q_0, .inr (12, [.int x_0, .int x_1, .ref q_1, .ref q_2, .ref q_3, .int x_2, .ref q_4, .ref q_5, .ref q_6, .ref q_7, .ref q_8, .int 0, .int 0, .int 0, .int 0, .long g_3, .int x_4, .int x_5, .int x_6, .ref q_9, .int x_7, .ref q_10, .ref q_11, .int x_8, .ref q_12, .ref q_13, .int x_9, .int x_10, .ref q_14, .ref q_15, .ref q_16, .ref q_17, .int x_11, .long g_12, .long g_13, .int x_14, .int x_15, .int x_16, .int x_17, .ref q_18, .ref q_19, .int x_18, .int x_19, .int x_20, .int x_21, .ref q_20, .ref q_21, .int x_22, .int x_23, .ref q_22, .ref q_23, .ref q_24, .ref q_25, .int x_24, .int x_25, .int x_26]))] := hD
  refine lv_aload_n hx hb dX12_next_8 rfl (lv_at hl 0 rfl) ?_
  refine va_get (D := D) (ci := 12) (v := .int 0) (C := RX12) (T := TX12) (N := 56) hx hb hts inX12 hown hK hP 0 rfl rfl 12 (by decide) (hts _ kF_X12_209) (fun _ h9 => h9) rfl dX12_next_9 ?_
  refine lv_aload_n hx hb dX12_next_12 rfl (lv_at hl 0 rfl) ?_
  refine va_get (D := D) (ci := 12) (v := .int 0) (C := RX12) (T := TX12) (N := 56) hx hb hts inX12 hown hK hP 0 rfl rfl 11 (by decide) (hts _ kF_X12_193) (fun _ h9 => h9) rfl dX12_next_13 ?_
  refine lv_icmp_ge (tgt := 46) hx hb dX12_next_16 (by decide) (fun _ => ?_) (fun c1 => absurd (by decide) c1)
  refine lv_aload_n hx hb dX12_next_46 rfl (lv_at hl 0 rfl) ?_
  refine lv_aload_n hx hb dX12_next_47 rfl (lv_at hl 0 rfl) ?_
  refine va_get (D := D) (ci := 12) (v := .int 0) (C := RX12) (T := TX12) (N := 56) hx hb hts inX12 hown hK hP 0 rfl rfl 12 (by decide) (hts _ kF_X12_209) (fun _ h9 => h9) rfl dX12_next_48 ?_
  refine va_put (D := D) (ci := 12) (v := .int 0) (ty := .int) (C := RX12) (T := TX12) (N := 56) hx hb hts inX12 tyX12 tyX12_ok nmX12 hown hK hP hD hS 0 rfl rfl 13 (by decide) (hts _ kF_X12_199) (fun _ h9 => h9) rfl (by decide +kernel) rfl rfl (Nat.le_of_ble_eq_true rfl) dX12_next_51 (fun H locs hP hD hS => ?_)
  have hP : va_P D vwCl [(q_0, .inr (12, [.int x_0, .int x_1, .ref q_1, .ref q_2, .ref q_3, .int x_2, .ref q_4, .ref q_5, .ref q_6, .ref q_7, .ref q_8, .int 0, .int 0, .int 0, .int 0, .long g_3, .int x_4, .int x_5, .int x_6, .ref q_9, .int x_7, .ref q_10, .ref q_11, .int x_8, .ref q_12, .ref q_13, .int x_9, .int x_10, .ref q_14, .ref q_15, .ref q_16, .ref q_17, .int x_11, .long g_12, .long g_13, .int x_14, .int x_15, .int x_16, .int x_17, .ref q_18, .ref q_19, .int x_18, .int x_19, .int x_20, .int x_21, .ref q_20, .ref q_21, .int x_22, .int x_23, .ref q_22, .ref q_23, .ref q_24, .ref q_25, .int x_24, .int x_25, .int x_26]))] H := hP
  have hD : va_D A [(q_0, .inr (12, [.int x_0, .int x_1, .ref q_1, .ref q_2, .ref q_3, .int x_2, .ref q_4, .ref q_5, .ref q_6, .ref q_7, .ref q_8, .int 0, .int 0, .int 0, .int 0, .long g_3, .int x_4, .int x_5, .int x_6, .ref q_9, .int x_7, .ref q_10, .ref q_11, .int x_8, .ref q_12, .ref q_13, .int x_9, .int x_10, .ref q_14, .ref q_15, .ref q_16, .ref q_17, .int x_11, .long g_12, .long g_13, .int x_14, .int x_15, .int x_16, .int x_17, .ref q_18, .ref q_19, .int x_18, .int x_19, .int x_20, .int x_21, .ref q_20, .ref q_21, .int x_22, .int x_23, .ref q_22, .ref q_23, .ref q_24, .ref q_25, .int x_24, .int x_25, .int x_26]))] := hD
  refine lv_aload_n hx hb dX12_next_54 rfl (lv_at hl 0 rfl) ?_
  refine lv_lconst (v := 0) hx hb dX12_next_55 (by decide) ?_
  refine va_put (D := D) (ci := 12) (v := .long 0) (ty := .long) (C := RX12) (T := TX12) (N := 56) hx hb hts inX12 tyX12 tyX12_ok nmX12 hown hK hP hD hS 0 rfl rfl 15 (by decide) (hts _ kF_X12_212) (fun _ h9 => h9) rfl (by decide +kernel) rfl rfl (Nat.le_of_ble_eq_true rfl) dX12_next_56 (fun H locs hP hD hS => ?_)
  have hP : va_P D vwCl [(q_0, .inr (12, [.int x_0, .int x_1, .ref q_1, .ref q_2, .ref q_3, .int x_2, .ref q_4, .ref q_5, .ref q_6, .ref q_7, .ref q_8, .int 0, .int 0, .int 0, .int 0, .long 0, .int x_4, .int x_5, .int x_6, .ref q_9, .int x_7, .ref q_10, .ref q_11, .int x_8, .ref q_12, .ref q_13, .int x_9, .int x_10, .ref q_14, .ref q_15, .ref q_16, .ref q_17, .int x_11, .long g_12, .long g_13, .int x_14, .int x_15, .int x_16, .int x_17, .ref q_18, .ref q_19, .int x_18, .int x_19, .int x_20, .int x_21, .ref q_20, .ref q_21, .int x_22, .int x_23, .ref q_22, .ref q_23, .ref q_24, .ref q_25, .int x_24, .int x_25, .int x_26]))] H := hP
  have hD : va_D A [(q_0, .inr (12, [.int x_0, .int x_1, .ref q_1, .ref q_2, .ref q_3, .int x_2, .ref q_4, .ref q_5, .ref q_6, .ref q_7, .ref q_8, .int 0, .int 0, .int 0, .int 0, .long 0, .int x_4, .int x_5, .int x_6, .ref q_9, .int x_7, .ref q_10, .ref q_11, .int x_8, .ref q_12, .ref q_13, .int x_9, .int x_10, .ref q_14, .ref q_15, .ref q_16, .ref q_17, .int x_11, .long g_12, .long g_13, .int x_14, .int x_15, .int x_16, .int x_17, .ref q_18, .ref q_19, .int x_18, .int x_19, .int x_20, .int x_21, .ref q_20, .ref q_21, .int x_22, .int x_23, .ref q_22, .ref q_23, .ref q_24, .ref q_25, .int x_24, .int x_25, .int x_26]))] := hD
  refine lv_aload_n hx hb dX12_next_59 rfl (lv_at hl 0 rfl) ?_
  refine lv_aload_n hx hb dX12_next_60 rfl (lv_at hl 0 rfl) ?_
  refine va_get (D := D) (ci := 12) (v := .int 0) (C := RX12) (T := TX12) (N := 56) hx hb hts inX12 hown hK hP 0 rfl rfl 12 (by decide) (hts _ kF_X12_209) (fun _ h9 => h9) rfl dX12_next_61 ?_
  refine lv_aload_n hx hb dX12_next_64 rfl (lv_at hl 0 rfl) ?_
  refine va_get (D := D) (ci := 12) (v := .int 0) (C := RX12) (T := TX12) (N := 56) hx hb hts inX12 hown hK hP 0 rfl rfl 11 (by decide) (hts _ kF_X12_193) (fun _ h9 => h9) rfl dX12_next_65 ?_
  refine lv_icmp_ne (tgt := 75) hx hb dX12_next_68 (by decide) (fun c2 => absurd (by decide) c2) (fun _ => ?_)
  refine lv_iconst (v := 0) hx hb dX12_next_71 (by decide) ?_
  refine lv_goto (tgt := 114) hx hb dX12_next_72 (by decide) ?_
  refine va_put (D := D) (ci := 12) (v := .int 0) (ty := .int) (C := RX12) (T := TX12) (N := 56) hx hb hts inX12 tyX12 tyX12_ok nmX12 hown hK hP hD hS 0 rfl rfl 14 (by decide) (hts _ kF_X12_222) (fun _ h9 => h9) rfl (by decide +kernel) rfl rfl (Nat.le_of_ble_eq_true rfl) dX12_next_114 (fun H locs hP hD hS => ?_)
  have hP : va_P D vwCl [(q_0, .inr (12, [.int x_0, .int x_1, .ref q_1, .ref q_2, .ref q_3, .int x_2, .ref q_4, .ref q_5, .ref q_6, .ref q_7, .ref q_8, .int 0, .int 0, .int 0, .int 0, .long 0, .int x_4, .int x_5, .int x_6, .ref q_9, .int x_7, .ref q_10, .ref q_11, .int x_8, .ref q_12, .ref q_13, .int x_9, .int x_10, .ref q_14, .ref q_15, .ref q_16, .ref q_17, .int x_11, .long g_12, .long g_13, .int x_14, .int x_15, .int x_16, .int x_17, .ref q_18, .ref q_19, .int x_18, .int x_19, .int x_20, .int x_21, .ref q_20, .ref q_21, .int x_22, .int x_23, .ref q_22, .ref q_23, .ref q_24, .ref q_25, .int x_24, .int x_25, .int x_26]))] H := hP
  have hD : va_D A [(q_0, .inr (12, [.int x_0, .int x_1, .ref q_1, .ref q_2, .ref q_3, .int x_2, .ref q_4, .ref q_5, .ref q_6, .ref q_7, .ref q_8, .int 0, .int 0, .int 0, .int 0, .long 0, .int x_4, .int x_5, .int x_6, .ref q_9, .int x_7, .ref q_10, .ref q_11, .int x_8, .ref q_12, .ref q_13, .int x_9, .int x_10, .ref q_14, .ref q_15, .ref q_16, .ref q_17, .int x_11, .long g_12, .long g_13, .int x_14, .int x_15, .int x_16, .int x_17, .ref q_18, .ref q_19, .int x_18, .int x_19, .int x_20, .int x_21, .ref q_20, .ref q_21, .int x_22, .int x_23, .ref q_22, .ref q_23, .ref q_24, .ref q_25, .int x_24, .int x_25, .int x_26]))] := hD
  refine lv_aload_n hx hb dX12_next_117 rfl (lv_at hl 0 rfl) ?_
  refine va_get (D := D) (ci := 12) (v := .int 0) (C := RX12) (T := TX12) (N := 56) hx hb hts inX12 hown hK hP 0 rfl rfl 14 (by decide) (hts _ kF_X12_222) (fun _ h9 => h9) rfl dX12_next_118 ?_
  refine lv_iconst (v := 3) hx hb dX12_next_121 (by decide) ?_
  refine lv_icmp_ne (tgt := 149) hx hb dX12_next_122 (by decide) (fun _ => ?_) (fun c3 => absurd c3 (by decide))
  refine lv_aload_n hx hb dX12_next_149 rfl (lv_at hl 0 rfl) ?_
  refine va_get (D := D) (ci := 12) (v := .int 0) (C := RX12) (T := TX12) (N := 56) hx hb hts inX12 hown hK hP 0 rfl rfl 14 (by decide) (hts _ kF_X12_222) (fun _ h9 => h9) rfl dX12_next_150 ?_
  refine lv_iconst (v := 1) hx hb dX12_next_153 (by decide) ?_
  refine lv_icmp_ne (tgt := 243) hx hb dX12_next_154 (by decide) (fun _ => ?_) (fun c4 => absurd c4 (by decide))
  refine lv_aload_n hx hb dX12_next_243 rfl (lv_at hl 0 rfl) ?_
  refine va_get (D := D) (ci := 12) (v := .int 0) (C := RX12) (T := TX12) (N := 56) hx hb hts inX12 hown hK hP 0 rfl rfl 14 (by decide) (hts _ kF_X12_222) (fun _ h9 => h9) rfl dX12_next_244 ?_
  refine lv_iconst (v := 2) hx hb dX12_next_247 (by decide) ?_
  refine lv_icmp_ne (tgt := 335) hx hb dX12_next_248 (by decide) (fun _ => ?_) (fun c5 => absurd c5 (by decide))
  exact z_vret C0 hr hlk hK hP hD hS (0, fun _ => 0) rfl [0] rfl rfl rfl dX12_next_335

set_option maxHeartbeats 4000000 in
set_option maxRecDepth 100000 in
theorem c_X12_begin_1 (l : Launch) (D : va_G) (k : Nat → ClassId) (q_0 : Nat) (q_1 : Nat) (q_2 : Nat) (q_3 : Nat) (q_4 : Nat) (q_5 : Nat) (q_6 : Nat) (q_7 : Nat) (q_8 : Nat) (q_9 : Nat) (q_10 : Nat) (q_11 : Nat) (q_12 : Nat) (q_13 : Nat) (q_14 : Nat) (q_15 : Nat) (q_16 : Nat) (q_17 : Nat) (q_18 : Nat) (q_19 : Nat) (q_20 : Nat) (q_21 : Nat) (q_22 : Nat) (q_23 : Nat) (q_24 : Nat) (q_25 : Nat) (x_0 : Int32) (x_1 : Int32) (x_2 : Int32) (g_3 : Int64) (x_4 : Int32) (x_5 : Int32) (x_6 : Int32) (x_7 : Int32) (x_8 : Int32) (x_9 : Int32) (x_10 : Int32) (x_11 : Int32) (g_12 : Int64) (g_13 : Int64) (x_14 : Int32) (x_15 : Int32) (x_16 : Int32) (x_17 : Int32) (x_18 : Int32) (x_19 : Int32) (x_20 : Int32) (x_21 : Int32) (x_22 : Int32) (x_23 : Int32) (x_24 : Int32) (x_25 : Int32) (x_26 : Int32) : zMv l yX12_begin cX12_begin 1 none ({ frames := 1, cells := 0, slots := 0, locals := 20 }) D k [.ref q_0] [(q_0, .inr (12, [.int x_0, .int x_1, .ref q_1, .ref q_2, .ref q_3, .int x_2, .ref q_4, .ref q_5, .ref q_6, .ref q_7, .ref q_8, .int 0, .int 0, .int 0, .int 0, .long g_3, .int x_4, .int x_5, .int x_6, .ref q_9, .int x_7, .ref q_10, .ref q_11, .int x_8, .ref q_12, .ref q_13, .int x_9, .int x_10, .ref q_14, .ref q_15, .ref q_16, .ref q_17, .int x_11, .long g_12, .long g_13, .int x_14, .int x_15, .int x_16, .int x_17, .ref q_18, .ref q_19, .int x_18, .int x_19, .int x_20, .int x_21, .ref q_20, .ref q_21, .int x_22, .int x_23, .ref q_22, .ref q_23, .ref q_24, .ref q_25, .int x_24, .int x_25, .int x_26]))] (fun u => u.1 = 0) (fun u => [(q_0, .inr (12, [.int x_0, .int x_1, .ref q_1, .ref q_2, .ref q_3, .int x_2, .ref q_4, .ref q_5, .ref q_6, .ref q_7, .ref q_8, .int 0, .int 0, .int 0, .int 0, .long 0, .int (-1), .int 0, .int x_6, .ref q_9, .int x_7, .ref q_10, .ref q_11, .int x_8, .ref q_12, .ref q_13, .int x_9, .int x_10, .ref q_14, .ref q_15, .ref q_16, .ref q_17, .int x_11, .long g_12, .long g_13, .int x_14, .int x_15, .int x_16, .int x_17, .ref q_18, .ref q_19, .int x_18, .int x_19, .int x_20, .int x_21, .ref q_20, .ref q_21, .int x_22, .int x_23, .ref q_22, .ref q_23, .ref q_24, .ref q_25, .int x_24, .int x_25, .int x_26]))]) := by
  refine zMv_of (own := RX12) (by decide +kernel) rfl (Nat.le_of_ble_eq_true rfl) ?_
  intro p e s m args below meth c A ls C0 hr hlk hin hP hD hS hA hK hN hl
  have hx := C0.1
  have hb := C0.2.1
  have hml := C0.2.2.1
  have hown := C0.2.2.2.1
  have hts := C0.2.2.2.2
  have hl : lv_has ls 1 [(0, .ref q_0)] := hl
  have hP : va_P D vwCl [(q_0, .inr (12, [.int x_0, .int x_1, .ref q_1, .ref q_2, .ref q_3, .int x_2, .ref q_4, .ref q_5, .ref q_6, .ref q_7, .ref q_8, .int 0, .int 0, .int 0, .int 0, .long g_3, .int x_4, .int x_5, .int x_6, .ref q_9, .int x_7, .ref q_10, .ref q_11, .int x_8, .ref q_12, .ref q_13, .int x_9, .int x_10, .ref q_14, .ref q_15, .ref q_16, .ref q_17, .int x_11, .long g_12, .long g_13, .int x_14, .int x_15, .int x_16, .int x_17, .ref q_18, .ref q_19, .int x_18, .int x_19, .int x_20, .int x_21, .ref q_20, .ref q_21, .int x_22, .int x_23, .ref q_22, .ref q_23, .ref q_24, .ref q_25, .int x_24, .int x_25, .int x_26]))] s.heap := hP
  refine lv_aload_n hx hb dX12_begin_0 rfl (lv_at hl 0 rfl) ?_
  refine lv_iconst (v := 0) hx hb dX12_begin_1 (by decide) ?_
  refine va_put (D := D) (ci := 12) (v := .int 0) (ty := .int) (C := RX12) (T := TX12) (N := 56) hx hb hts inX12 tyX12 tyX12_ok nmX12 hown hK hP hD hS 0 rfl rfl 13 (by decide) (hts _ kF_X12_199) (fun _ h9 => h9) rfl (by decide +kernel) rfl rfl (Nat.le_of_ble_eq_true rfl) dX12_begin_2 (fun H locs hP hD hS => ?_)
  have hP : va_P D vwCl [(q_0, .inr (12, [.int x_0, .int x_1, .ref q_1, .ref q_2, .ref q_3, .int x_2, .ref q_4, .ref q_5, .ref q_6, .ref q_7, .ref q_8, .int 0, .int 0, .int 0, .int 0, .long g_3, .int x_4, .int x_5, .int x_6, .ref q_9, .int x_7, .ref q_10, .ref q_11, .int x_8, .ref q_12, .ref q_13, .int x_9, .int x_10, .ref q_14, .ref q_15, .ref q_16, .ref q_17, .int x_11, .long g_12, .long g_13, .int x_14, .int x_15, .int x_16, .int x_17, .ref q_18, .ref q_19, .int x_18, .int x_19, .int x_20, .int x_21, .ref q_20, .ref q_21, .int x_22, .int x_23, .ref q_22, .ref q_23, .ref q_24, .ref q_25, .int x_24, .int x_25, .int x_26]))] H := hP
  have hD : va_D A [(q_0, .inr (12, [.int x_0, .int x_1, .ref q_1, .ref q_2, .ref q_3, .int x_2, .ref q_4, .ref q_5, .ref q_6, .ref q_7, .ref q_8, .int 0, .int 0, .int 0, .int 0, .long g_3, .int x_4, .int x_5, .int x_6, .ref q_9, .int x_7, .ref q_10, .ref q_11, .int x_8, .ref q_12, .ref q_13, .int x_9, .int x_10, .ref q_14, .ref q_15, .ref q_16, .ref q_17, .int x_11, .long g_12, .long g_13, .int x_14, .int x_15, .int x_16, .int x_17, .ref q_18, .ref q_19, .int x_18, .int x_19, .int x_20, .int x_21, .ref q_20, .ref q_21, .int x_22, .int x_23, .ref q_22, .ref q_23, .ref q_24, .ref q_25, .int x_24, .int x_25, .int x_26]))] := hD
  refine lv_aload_n hx hb dX12_begin_5 rfl (lv_at hl 0 rfl) ?_
  refine lv_iconst (v := 0) hx hb dX12_begin_6 (by decide) ?_
  refine va_put (D := D) (ci := 12) (v := .int 0) (ty := .boolean) (C := RX12) (T := TX12) (N := 56) hx hb hts inX12 tyX12 tyX12_ok nmX12 hown hK hP hD hS 0 rfl rfl 17 (by decide) (hts _ kF_X12_202) (fun _ h9 => h9) rfl (by decide +kernel) rfl rfl (Nat.le_of_ble_eq_true rfl) dX12_begin_7 (fun H locs hP hD hS => ?_)
  have hP : va_P D vwCl [(q_0, .inr (12, [.int x_0, .int x_1, .ref q_1, .ref q_2, .ref q_3, .int x_2, .ref q_4, .ref q_5, .ref q_6, .ref q_7, .ref q_8, .int 0, .int 0, .int 0, .int 0, .long g_3, .int x_4, .int 0, .int x_6, .ref q_9, .int x_7, .ref q_10, .ref q_11, .int x_8, .ref q_12, .ref q_13, .int x_9, .int x_10, .ref q_14, .ref q_15, .ref q_16, .ref q_17, .int x_11, .long g_12, .long g_13, .int x_14, .int x_15, .int x_16, .int x_17, .ref q_18, .ref q_19, .int x_18, .int x_19, .int x_20, .int x_21, .ref q_20, .ref q_21, .int x_22, .int x_23, .ref q_22, .ref q_23, .ref q_24, .ref q_25, .int x_24, .int x_25, .int x_26]))] H := hP
  have hD : va_D A [(q_0, .inr (12, [.int x_0, .int x_1, .ref q_1, .ref q_2, .ref q_3, .int x_2, .ref q_4, .ref q_5, .ref q_6, .ref q_7, .ref q_8, .int 0, .int 0, .int 0, .int 0, .long g_3, .int x_4, .int 0, .int x_6, .ref q_9, .int x_7, .ref q_10, .ref q_11, .int x_8, .ref q_12, .ref q_13, .int x_9, .int x_10, .ref q_14, .ref q_15, .ref q_16, .ref q_17, .int x_11, .long g_12, .long g_13, .int x_14, .int x_15, .int x_16, .int x_17, .ref q_18, .ref q_19, .int x_18, .int x_19, .int x_20, .int x_21, .ref q_20, .ref q_21, .int x_22, .int x_23, .ref q_22, .ref q_23, .ref q_24, .ref q_25, .int x_24, .int x_25, .int x_26]))] := hD
  refine lv_aload_n hx hb dX12_begin_10 rfl (lv_at hl 0 rfl) ?_
  refine lv_iconst (v := (-1)) hx hb dX12_begin_11 (by decide) ?_
  refine va_put (D := D) (ci := 12) (v := .int (-1)) (ty := .int) (C := RX12) (T := TX12) (N := 56) hx hb hts inX12 tyX12 tyX12_ok nmX12 hown hK hP hD hS 0 rfl rfl 16 (by decide) (hts _ kF_X12_36) (fun _ h9 => h9) rfl (by decide +kernel) rfl rfl (Nat.le_of_ble_eq_true rfl) dX12_begin_12 (fun H locs hP hD hS => ?_)
  have hP : va_P D vwCl [(q_0, .inr (12, [.int x_0, .int x_1, .ref q_1, .ref q_2, .ref q_3, .int x_2, .ref q_4, .ref q_5, .ref q_6, .ref q_7, .ref q_8, .int 0, .int 0, .int 0, .int 0, .long g_3, .int (-1), .int 0, .int x_6, .ref q_9, .int x_7, .ref q_10, .ref q_11, .int x_8, .ref q_12, .ref q_13, .int x_9, .int x_10, .ref q_14, .ref q_15, .ref q_16, .ref q_17, .int x_11, .long g_12, .long g_13, .int x_14, .int x_15, .int x_16, .int x_17, .ref q_18, .ref q_19, .int x_18, .int x_19, .int x_20, .int x_21, .ref q_20, .ref q_21, .int x_22, .int x_23, .ref q_22, .ref q_23, .ref q_24, .ref q_25, .int x_24, .int x_25, .int x_26]))] H := hP
  have hD : va_D A [(q_0, .inr (12, [.int x_0, .int x_1, .ref q_1, .ref q_2, .ref q_3, .int x_2, .ref q_4, .ref q_5, .ref q_6, .ref q_7, .ref q_8, .int 0, .int 0, .int 0, .int 0, .long g_3, .int (-1), .int 0, .int x_6, .ref q_9, .int x_7, .ref q_10, .ref q_11, .int x_8, .ref q_12, .ref q_13, .int x_9, .int x_10, .ref q_14, .ref q_15, .ref q_16, .ref q_17, .int x_11, .long g_12, .long g_13, .int x_14, .int x_15, .int x_16, .int x_17, .ref q_18, .ref q_19, .int x_18, .int x_19, .int x_20, .int x_21, .ref q_20, .ref q_21, .int x_22, .int x_23, .ref q_22, .ref q_23, .ref q_24, .ref q_25, .int x_24, .int x_25, .int x_26]))] := hD
  refine lv_aload_n hx hb dX12_begin_15 rfl (lv_at hl 0 rfl) ?_
  refine z_bv (wr := []) (z_runV (C := RX12) (As := []) (rest := []) C0 (c_X12_next_1 l D k q_0 q_1 q_2 q_3 q_4 q_5 q_6 q_7 q_8 q_9 q_10 q_11 q_12 q_13 q_14 q_15 q_16 q_17 q_18 q_19 q_20 q_21 q_22 q_23 q_24 q_25 x_0 x_1 x_2 g_3 (-1) 0 x_6 x_7 x_8 x_9 x_10 x_11 g_12 g_13 x_14 x_15 x_16 x_17 x_18 x_19 x_20 x_21 x_22 x_23 x_24 x_25 x_26 _) okV_X12_next kM_X12_206 rfl (z_pV (q0 := 0) hK hN hP hD [0] rfl rfl rfl rfl rfl) rfl hl.1 rfl (Nat.le_of_ble_eq_true rfl) dX12_begin_16 rfl) hP hD hS hA [0] [] rfl rfl rfl rfl (fun u1 H locs hw1 hP hD hS => ?_)
  obtain ⟨i1, a1⟩ := u1
  dsimp only at hw1
  obtain rfl := hw1
  have hP : va_P D vwCl [(q_0, .inr (12, [.int x_0, .int x_1, .ref q_1, .ref q_2, .ref q_3, .int x_2, .ref q_4, .ref q_5, .ref q_6, .ref q_7, .ref q_8, .int 0, .int 0, .int 0, .int 0, .long 0, .int (-1), .int 0, .int x_6, .ref q_9, .int x_7, .ref q_10, .ref q_11, .int x_8, .ref q_12, .ref q_13, .int x_9, .int x_10, .ref q_14, .ref q_15, .ref q_16, .ref q_17, .int x_11, .long g_12, .long g_13, .int x_14, .int x_15, .int x_16, .int x_17, .ref q_18, .ref q_19, .int x_18, .int x_19, .int x_20, .int x_21, .ref q_20, .ref q_21, .int x_22, .int x_23, .ref q_22, .ref q_23, .ref q_24, .ref q_25, .int x_24, .int x_25, .int x_26]))] H := hP
  have hD : va_D A [(q_0, .inr (12, [.int x_0, .int x_1, .ref q_1, .ref q_2, .ref q_3, .int x_2, .ref q_4, .ref q_5, .ref q_6, .ref q_7, .ref q_8, .int 0, .int 0, .int 0, .int 0, .long 0, .int (-1), .int 0, .int x_6, .ref q_9, .int x_7, .ref q_10, .ref q_11, .int x_8, .ref q_12, .ref q_13, .int x_9, .int x_10, .ref q_14, .ref q_15, .ref q_16, .ref q_17, .int x_11, .long g_12, .long g_13, .int x_14, .int x_15, .int x_16, .int x_17, .ref q_18, .ref q_19, .int x_18, .int x_19, .int x_20, .int x_21, .ref q_20, .ref q_21, .int x_22, .int x_23, .ref q_22, .ref q_23, .ref q_24, .ref q_25, .int x_24, .int x_25, .int x_26]))] := hD
  exact z_vret C0 hr hlk hK hP hD hS (0, fun _ => 0) rfl [0] rfl rfl rfl dX12_begin_19

set_option maxHeartbeats 4000000 in
set_option maxRecDepth 100000 in
theorem c_X12_isWord_1 (l : Launch) (D : va_G) (k : Nat → ClassId) (q_0 : Nat) (q_1 : Nat) (q_2 : Nat) (q_3 : Nat) (q_4 : Nat) (q_5 : Nat) (q_6 : Nat) (q_7 : Nat) (q_8 : Nat) (q_9 : Nat) (q_10 : Nat) (q_11 : Nat) (q_12 : Nat) (q_13 : Nat) (q_14 : Nat) (q_15 : Nat) (q_16 : Nat) (q_17 : Nat) (q_18 : Nat) (q_19 : Nat) (q_20 : Nat) (q_21 : Nat) (q_22 : Nat) (q_23 : Nat) (q_24 : Nat) (q_25 : Nat) (x_0 : Int32) (x_1 : Int32) (x_2 : Int32) (x_3 : Int32) (x_4 : Int32) (x_5 : Int32) (g_6 : Int64) (x_7 : Int32) (x_8 : Int32) (x_9 : Int32) (x_10 : Int32) (x_11 : Int32) (x_12 : Int32) (x_13 : Int32) (x_14 : Int32) (g_15 : Int64) (g_16 : Int64) (x_17 : Int32) (x_18 : Int32) (x_19 : Int32) (x_20 : Int32) (x_21 : Int32) (x_22 : Int32) (x_23 : Int32) (x_24 : Int32) (x_25 : Int32) (x_26 : Int32) (x_27 : Int32) (x_28 : Int32) (x_29 : Int32) : zMi l yX12_isWord cX12_isWord 3 (some .boolean) ({ frames := 0, cells := 0, slots := 0, locals := 0 }) D k [.ref q_0, .long 659105125] [(q_0, .inr (12, [.int x_0, .int x_1, .ref q_1, .ref q_2, .ref q_3, .int x_2, .ref q_4, .ref q_5, .ref q_6, .ref q_7, .ref q_8, .int x_3, .int x_4, .int x_5, .int 0, .long g_6, .int x_7, .int x_8, .int x_9, .ref q_9, .int x_10, .ref q_10, .ref q_11, .int x_11, .ref q_12, .ref q_13, .int x_12, .int x_13, .ref q_14, .ref q_15, .ref q_16, .ref q_17, .int x_14, .long g_15, .long g_16, .int x_17, .int x_18, .int x_19, .int x_20, .ref q_18, .ref q_19, .int x_21, .int x_22, .int x_23, .int x_24, .ref q_20, .ref q_21, .int x_25, .int x_26, .ref q_22, .ref q_23, .ref q_24, .ref q_25, .int x_27, .int x_28, .int x_29]))] (fun r u => u.1 = 0 ∧ r = 0) (fun u => [(q_0, .inr (12, [.int x_0, .int x_1, .ref q_1, .ref q_2, .ref q_3, .int x_2, .ref q_4, .ref q_5, .ref q_6, .ref q_7, .ref q_8, .int x_3, .int x_4, .int x_5, .int 0, .long g_6, .int x_7, .int x_8, .int x_9, .ref q_9, .int x_10, .ref q_10, .ref q_11, .int x_11, .ref q_12, .ref q_13, .int x_12, .int x_13, .ref q_14, .ref q_15, .ref q_16, .ref q_17, .int x_14, .long g_15, .long g_16, .int x_17, .int x_18, .int x_19, .int x_20, .ref q_18, .ref q_19, .int x_21, .int x_22, .int x_23, .int x_24, .ref q_20, .ref q_21, .int x_25, .int x_26, .ref q_22, .ref q_23, .ref q_24, .ref q_25, .int x_27, .int x_28, .int x_29]))]) := by
  refine zMi_of (own := RX12) (by decide +kernel) rfl (Nat.le_of_ble_eq_true rfl) ?_
  intro p e s m args below meth c A ls C0 hr hlk hin hP hD hS hA hK hN hl
  have hx := C0.1
  have hb := C0.2.1
  have hml := C0.2.2.1
  have hown := C0.2.2.2.1
  have hts := C0.2.2.2.2
  have hl : lv_has ls 3 [(0, .ref q_0), (1, .long 659105125)] := hl
  have hP : va_P D vwCl [(q_0, .inr (12, [.int x_0, .int x_1, .ref q_1, .ref q_2, .ref q_3, .int x_2, .ref q_4, .ref q_5, .ref q_6, .ref q_7, .ref q_8, .int x_3, .int x_4, .int x_5, .int 0, .long g_6, .int x_7, .int x_8, .int x_9, .ref q_9, .int x_10, .ref q_10, .ref q_11, .int x_11, .ref q_12, .ref q_13, .int x_12, .int x_13, .ref q_14, .ref q_15, .ref q_16, .ref q_17, .int x_14, .long g_15, .long g_16, .int x_17, .int x_18, .int x_19, .int x_20, .ref q_18, .ref q_19, .int x_21, .int x_22, .int x_23, .int x_24, .ref q_20, .ref q_21, .int x_25, .int x_26, .ref q_22, .ref q_23, .ref q_24, .ref q_25, .int x_27, .int x_28, .int x_29]))] s.heap := hP
  refine lv_aload_n hx hb dX12_isWord_0 rfl (lv_at hl 0 rfl) ?_
  refine va_get (D := D) (ci := 12) (v := .int 0) (C := RX12) (T := TX12) (N := 56) hx hb hts inX12 hown hK hP 0 rfl rfl 14 (by decide) (hts _ kF_X12_222) (fun _ h9 => h9) rfl dX12_isWord_1 ?_
  refine lv_iconst (v := 1) hx hb dX12_isWord_4 (by decide) ?_
  refine lv_icmp_ne (tgt := 21) hx hb dX12_isWord_5 (by decide) (fun _ => ?_) (fun c1 => absurd c1 (by decide))
  refine lv_iconst (v := 0) hx hb dX12_isWord_21 (by decide) ?_
  exact z_iret C0 hr hlk rfl hK hP hD hS (0, fun _ => 0) ⟨rfl, rfl⟩ [0] rfl rfl rfl dX12_isWord_22

set_option maxHeartbeats 4000000 in
set_option maxRecDepth 100000 in
theorem c_X12_isWord_2 (l : Launch) (D : va_G) (k : Nat → ClassId) (q_0 : Nat) (q_1 : Nat) (q_2 : Nat) (q_3 : Nat) (q_4 : Nat) (q_5 : Nat) (q_6 : Nat) (q_7 : Nat) (q_8 : Nat) (q_9 : Nat) (q_10 : Nat) (q_11 : Nat) (q_12 : Nat) (q_13 : Nat) (q_14 : Nat) (q_15 : Nat) (q_16 : Nat) (q_17 : Nat) (q_18 : Nat) (q_19 : Nat) (q_20 : Nat) (q_21 : Nat) (q_22 : Nat) (q_23 : Nat) (q_24 : Nat) (q_25 : Nat) (x_0 : Int32) (x_1 : Int32) (x_2 : Int32) (x_3 : Int32) (x_4 : Int32) (x_5 : Int32) (g_6 : Int64) (x_7 : Int32) (x_8 : Int32) (x_9 : Int32) (x_10 : Int32) (x_11 : Int32) (x_12 : Int32) (x_13 : Int32) (x_14 : Int32) (g_15 : Int64) (g_16 : Int64) (x_17 : Int32) (x_18 : Int32) (x_19 : Int32) (x_20 : Int32) (x_21 : Int32) (x_22 : Int32) (x_23 : Int32) (x_24 : Int32) (x_25 : Int32) (x_26 : Int32) (x_27 : Int32) (x_28 : Int32) (x_29 : Int32) : zMi l yX12_isWord cX12_isWord 3 (some .boolean) ({ frames := 0, cells := 0, slots := 0, locals := 0 }) D k [.ref q_0, .long 113797] [(q_0, .inr (12, [.int x_0, .int x_1, .ref q_1, .ref q_2, .ref q_3, .int x_2, .ref q_4, .ref q_5, .ref q_6, .ref q_7, .ref q_8, .int x_3, .int x_4, .int x_5, .int 0, .long g_6, .int x_7, .int x_8, .int x_9, .ref q_9, .int x_10, .ref q_10, .ref q_11, .int x_11, .ref q_12, .ref q_13, .int x_12, .int x_13, .ref q_14, .ref q_15, .ref q_16, .ref q_17, .int x_14, .long g_15, .long g_16, .int x_17, .int x_18, .int x_19, .int x_20, .ref q_18, .ref q_19, .int x_21, .int x_22, .int x_23, .int x_24, .ref q_20, .ref q_21, .int x_25, .int x_26, .ref q_22, .ref q_23, .ref q_24, .ref q_25, .int x_27, .int x_28, .int x_29]))] (fun r u => u.1 = 0 ∧ r = 0) (fun u => [(q_0, .inr (12, [.int x_0, .int x_1, .ref q_1, .ref q_2, .ref q_3, .int x_2, .ref q_4, .ref q_5, .ref q_6, .ref q_7, .ref q_8, .int x_3, .int x_4, .int x_5, .int 0, .long g_6, .int x_7, .int x_8, .int x_9, .ref q_9, .int x_10, .ref q_10, .ref q_11, .int x_11, .ref q_12, .ref q_13, .int x_12, .int x_13, .ref q_14, .ref q_15, .ref q_16, .ref q_17, .int x_14, .long g_15, .long g_16, .int x_17, .int x_18, .int x_19, .int x_20, .ref q_18, .ref q_19, .int x_21, .int x_22, .int x_23, .int x_24, .ref q_20, .ref q_21, .int x_25, .int x_26, .ref q_22, .ref q_23, .ref q_24, .ref q_25, .int x_27, .int x_28, .int x_29]))]) := by
  refine zMi_of (own := RX12) (by decide +kernel) rfl (Nat.le_of_ble_eq_true rfl) ?_
  intro p e s m args below meth c A ls C0 hr hlk hin hP hD hS hA hK hN hl
  have hx := C0.1
  have hb := C0.2.1
  have hml := C0.2.2.1
  have hown := C0.2.2.2.1
  have hts := C0.2.2.2.2
  have hl : lv_has ls 3 [(0, .ref q_0), (1, .long 113797)] := hl
  have hP : va_P D vwCl [(q_0, .inr (12, [.int x_0, .int x_1, .ref q_1, .ref q_2, .ref q_3, .int x_2, .ref q_4, .ref q_5, .ref q_6, .ref q_7, .ref q_8, .int x_3, .int x_4, .int x_5, .int 0, .long g_6, .int x_7, .int x_8, .int x_9, .ref q_9, .int x_10, .ref q_10, .ref q_11, .int x_11, .ref q_12, .ref q_13, .int x_12, .int x_13, .ref q_14, .ref q_15, .ref q_16, .ref q_17, .int x_14, .long g_15, .long g_16, .int x_17, .int x_18, .int x_19, .int x_20, .ref q_18, .ref q_19, .int x_21, .int x_22, .int x_23, .int x_24, .ref q_20, .ref q_21, .int x_25, .int x_26, .ref q_22, .ref q_23, .ref q_24, .ref q_25, .int x_27, .int x_28, .int x_29]))] s.heap := hP
  refine lv_aload_n hx hb dX12_isWord_0 rfl (lv_at hl 0 rfl) ?_
  refine va_get (D := D) (ci := 12) (v := .int 0) (C := RX12) (T := TX12) (N := 56) hx hb hts inX12 hown hK hP 0 rfl rfl 14 (by decide) (hts _ kF_X12_222) (fun _ h9 => h9) rfl dX12_isWord_1 ?_
  refine lv_iconst (v := 1) hx hb dX12_isWord_4 (by decide) ?_
  refine lv_icmp_ne (tgt := 21) hx hb dX12_isWord_5 (by decide) (fun _ => ?_) (fun c1 => absurd c1 (by decide))
  refine lv_iconst (v := 0) hx hb dX12_isWord_21 (by decide) ?_
  exact z_iret C0 hr hlk rfl hK hP hD hS (0, fun _ => 0) ⟨rfl, rfl⟩ [0] rfl rfl rfl dX12_isWord_22

set_option maxHeartbeats 4000000 in
set_option maxRecDepth 100000 in
theorem c_X12_isWord_3 (l : Launch) (D : va_G) (k : Nat → ClassId) (q_0 : Nat) (q_1 : Nat) (q_2 : Nat) (q_3 : Nat) (q_4 : Nat) (q_5 : Nat) (q_6 : Nat) (q_7 : Nat) (q_8 : Nat) (q_9 : Nat) (q_10 : Nat) (q_11 : Nat) (q_12 : Nat) (q_13 : Nat) (q_14 : Nat) (q_15 : Nat) (q_16 : Nat) (q_17 : Nat) (q_18 : Nat) (q_19 : Nat) (q_20 : Nat) (q_21 : Nat) (q_22 : Nat) (q_23 : Nat) (q_24 : Nat) (q_25 : Nat) (x_0 : Int32) (x_1 : Int32) (x_2 : Int32) (x_3 : Int32) (x_4 : Int32) (x_5 : Int32) (g_6 : Int64) (x_7 : Int32) (x_8 : Int32) (x_9 : Int32) (x_10 : Int32) (x_11 : Int32) (x_12 : Int32) (x_13 : Int32) (x_14 : Int32) (g_15 : Int64) (g_16 : Int64) (x_17 : Int32) (x_18 : Int32) (x_19 : Int32) (x_20 : Int32) (x_21 : Int32) (x_22 : Int32) (x_23 : Int32) (x_24 : Int32) (x_25 : Int32) (x_26 : Int32) (x_27 : Int32) (x_28 : Int32) (x_29 : Int32) : zMi l yX12_isWord cX12_isWord 3 (some .boolean) ({ frames := 0, cells := 0, slots := 0, locals := 0 }) D k [.ref q_0, .long 643248] [(q_0, .inr (12, [.int x_0, .int x_1, .ref q_1, .ref q_2, .ref q_3, .int x_2, .ref q_4, .ref q_5, .ref q_6, .ref q_7, .ref q_8, .int x_3, .int x_4, .int x_5, .int 0, .long g_6, .int x_7, .int x_8, .int x_9, .ref q_9, .int x_10, .ref q_10, .ref q_11, .int x_11, .ref q_12, .ref q_13, .int x_12, .int x_13, .ref q_14, .ref q_15, .ref q_16, .ref q_17, .int x_14, .long g_15, .long g_16, .int x_17, .int x_18, .int x_19, .int x_20, .ref q_18, .ref q_19, .int x_21, .int x_22, .int x_23, .int x_24, .ref q_20, .ref q_21, .int x_25, .int x_26, .ref q_22, .ref q_23, .ref q_24, .ref q_25, .int x_27, .int x_28, .int x_29]))] (fun r u => u.1 = 0 ∧ r = 0) (fun u => [(q_0, .inr (12, [.int x_0, .int x_1, .ref q_1, .ref q_2, .ref q_3, .int x_2, .ref q_4, .ref q_5, .ref q_6, .ref q_7, .ref q_8, .int x_3, .int x_4, .int x_5, .int 0, .long g_6, .int x_7, .int x_8, .int x_9, .ref q_9, .int x_10, .ref q_10, .ref q_11, .int x_11, .ref q_12, .ref q_13, .int x_12, .int x_13, .ref q_14, .ref q_15, .ref q_16, .ref q_17, .int x_14, .long g_15, .long g_16, .int x_17, .int x_18, .int x_19, .int x_20, .ref q_18, .ref q_19, .int x_21, .int x_22, .int x_23, .int x_24, .ref q_20, .ref q_21, .int x_25, .int x_26, .ref q_22, .ref q_23, .ref q_24, .ref q_25, .int x_27, .int x_28, .int x_29]))]) := by
  refine zMi_of (own := RX12) (by decide +kernel) rfl (Nat.le_of_ble_eq_true rfl) ?_
  intro p e s m args below meth c A ls C0 hr hlk hin hP hD hS hA hK hN hl
  have hx := C0.1
  have hb := C0.2.1
  have hml := C0.2.2.1
  have hown := C0.2.2.2.1
  have hts := C0.2.2.2.2
  have hl : lv_has ls 3 [(0, .ref q_0), (1, .long 643248)] := hl
  have hP : va_P D vwCl [(q_0, .inr (12, [.int x_0, .int x_1, .ref q_1, .ref q_2, .ref q_3, .int x_2, .ref q_4, .ref q_5, .ref q_6, .ref q_7, .ref q_8, .int x_3, .int x_4, .int x_5, .int 0, .long g_6, .int x_7, .int x_8, .int x_9, .ref q_9, .int x_10, .ref q_10, .ref q_11, .int x_11, .ref q_12, .ref q_13, .int x_12, .int x_13, .ref q_14, .ref q_15, .ref q_16, .ref q_17, .int x_14, .long g_15, .long g_16, .int x_17, .int x_18, .int x_19, .int x_20, .ref q_18, .ref q_19, .int x_21, .int x_22, .int x_23, .int x_24, .ref q_20, .ref q_21, .int x_25, .int x_26, .ref q_22, .ref q_23, .ref q_24, .ref q_25, .int x_27, .int x_28, .int x_29]))] s.heap := hP
  refine lv_aload_n hx hb dX12_isWord_0 rfl (lv_at hl 0 rfl) ?_
  refine va_get (D := D) (ci := 12) (v := .int 0) (C := RX12) (T := TX12) (N := 56) hx hb hts inX12 hown hK hP 0 rfl rfl 14 (by decide) (hts _ kF_X12_222) (fun _ h9 => h9) rfl dX12_isWord_1 ?_
  refine lv_iconst (v := 1) hx hb dX12_isWord_4 (by decide) ?_
  refine lv_icmp_ne (tgt := 21) hx hb dX12_isWord_5 (by decide) (fun _ => ?_) (fun c1 => absurd c1 (by decide))
  refine lv_iconst (v := 0) hx hb dX12_isWord_21 (by decide) ?_
  exact z_iret C0 hr hlk rfl hK hP hD hS (0, fun _ => 0) ⟨rfl, rfl⟩ [0] rfl rfl rfl dX12_isWord_22

set_option maxHeartbeats 4000000 in
set_option maxRecDepth 100000 in
theorem c_X12_isWord_4 (l : Launch) (D : va_G) (k : Nat → ClassId) (q_0 : Nat) (q_1 : Nat) (q_2 : Nat) (q_3 : Nat) (q_4 : Nat) (q_5 : Nat) (q_6 : Nat) (q_7 : Nat) (q_8 : Nat) (q_9 : Nat) (q_10 : Nat) (q_11 : Nat) (q_12 : Nat) (q_13 : Nat) (q_14 : Nat) (q_15 : Nat) (q_16 : Nat) (q_17 : Nat) (q_18 : Nat) (q_19 : Nat) (q_20 : Nat) (q_21 : Nat) (q_22 : Nat) (q_23 : Nat) (q_24 : Nat) (q_25 : Nat) (x_0 : Int32) (x_1 : Int32) (x_2 : Int32) (x_3 : Int32) (x_4 : Int32) (x_5 : Int32) (g_6 : Int64) (x_7 : Int32) (x_8 : Int32) (x_9 : Int32) (x_10 : Int32) (x_11 : Int32) (x_12 : Int32) (x_13 : Int32) (x_14 : Int32) (g_15 : Int64) (g_16 : Int64) (x_17 : Int32) (x_18 : Int32) (x_19 : Int32) (x_20 : Int32) (x_21 : Int32) (x_22 : Int32) (x_23 : Int32) (x_24 : Int32) (x_25 : Int32) (x_26 : Int32) (x_27 : Int32) (x_28 : Int32) (x_29 : Int32) : zMi l yX12_isWord cX12_isWord 3 (some .boolean) ({ frames := 0, cells := 0, slots := 0, locals := 0 }) D k [.ref q_0, .long 206277] [(q_0, .inr (12, [.int x_0, .int x_1, .ref q_1, .ref q_2, .ref q_3, .int x_2, .ref q_4, .ref q_5, .ref q_6, .ref q_7, .ref q_8, .int x_3, .int x_4, .int x_5, .int 0, .long g_6, .int x_7, .int x_8, .int x_9, .ref q_9, .int x_10, .ref q_10, .ref q_11, .int x_11, .ref q_12, .ref q_13, .int x_12, .int x_13, .ref q_14, .ref q_15, .ref q_16, .ref q_17, .int x_14, .long g_15, .long g_16, .int x_17, .int x_18, .int x_19, .int x_20, .ref q_18, .ref q_19, .int x_21, .int x_22, .int x_23, .int x_24, .ref q_20, .ref q_21, .int x_25, .int x_26, .ref q_22, .ref q_23, .ref q_24, .ref q_25, .int x_27, .int x_28, .int x_29]))] (fun r u => u.1 = 0 ∧ r = 0) (fun u => [(q_0, .inr (12, [.int x_0, .int x_1, .ref q_1, .ref q_2, .ref q_3, .int x_2, .ref q_4, .ref q_5, .ref q_6, .ref q_7, .ref q_8, .int x_3, .int x_4, .int x_5, .int 0, .long g_6, .int x_7, .int x_8, .int x_9, .ref q_9, .int x_10, .ref q_10, .ref q_11, .int x_11, .ref q_12, .ref q_13, .int x_12, .int x_13, .ref q_14, .ref q_15, .ref q_16, .ref q_17, .int x_14, .long g_15, .long g_16, .int x_17, .int x_18, .int x_19, .int x_20, .ref q_18, .ref q_19, .int x_21, .int x_22, .int x_23, .int x_24, .ref q_20, .ref q_21, .int x_25, .int x_26, .ref q_22, .ref q_23, .ref q_24, .ref q_25, .int x_27, .int x_28, .int x_29]))]) := by
  refine zMi_of (own := RX12) (by decide +kernel) rfl (Nat.le_of_ble_eq_true rfl) ?_
  intro p e s m args below meth c A ls C0 hr hlk hin hP hD hS hA hK hN hl
  have hx := C0.1
  have hb := C0.2.1
  have hml := C0.2.2.1
  have hown := C0.2.2.2.1
  have hts := C0.2.2.2.2
  have hl : lv_has ls 3 [(0, .ref q_0), (1, .long 206277)] := hl
  have hP : va_P D vwCl [(q_0, .inr (12, [.int x_0, .int x_1, .ref q_1, .ref q_2, .ref q_3, .int x_2, .ref q_4, .ref q_5, .ref q_6, .ref q_7, .ref q_8, .int x_3, .int x_4, .int x_5, .int 0, .long g_6, .int x_7, .int x_8, .int x_9, .ref q_9, .int x_10, .ref q_10, .ref q_11, .int x_11, .ref q_12, .ref q_13, .int x_12, .int x_13, .ref q_14, .ref q_15, .ref q_16, .ref q_17, .int x_14, .long g_15, .long g_16, .int x_17, .int x_18, .int x_19, .int x_20, .ref q_18, .ref q_19, .int x_21, .int x_22, .int x_23, .int x_24, .ref q_20, .ref q_21, .int x_25, .int x_26, .ref q_22, .ref q_23, .ref q_24, .ref q_25, .int x_27, .int x_28, .int x_29]))] s.heap := hP
  refine lv_aload_n hx hb dX12_isWord_0 rfl (lv_at hl 0 rfl) ?_
  refine va_get (D := D) (ci := 12) (v := .int 0) (C := RX12) (T := TX12) (N := 56) hx hb hts inX12 hown hK hP 0 rfl rfl 14 (by decide) (hts _ kF_X12_222) (fun _ h9 => h9) rfl dX12_isWord_1 ?_
  refine lv_iconst (v := 1) hx hb dX12_isWord_4 (by decide) ?_
  refine lv_icmp_ne (tgt := 21) hx hb dX12_isWord_5 (by decide) (fun _ => ?_) (fun c1 => absurd c1 (by decide))
  refine lv_iconst (v := 0) hx hb dX12_isWord_21 (by decide) ?_
  exact z_iret C0 hr hlk rfl hK hP hD hS (0, fun _ => 0) ⟨rfl, rfl⟩ [0] rfl rfl rfl dX12_isWord_22

set_option maxHeartbeats 4000000 in
set_option maxRecDepth 100000 in
theorem c_X12_isWord_5 (l : Launch) (D : va_G) (k : Nat → ClassId) (q_0 : Nat) (q_1 : Nat) (q_2 : Nat) (q_3 : Nat) (q_4 : Nat) (q_5 : Nat) (q_6 : Nat) (q_7 : Nat) (q_8 : Nat) (q_9 : Nat) (q_10 : Nat) (q_11 : Nat) (q_12 : Nat) (q_13 : Nat) (q_14 : Nat) (q_15 : Nat) (q_16 : Nat) (q_17 : Nat) (q_18 : Nat) (q_19 : Nat) (q_20 : Nat) (q_21 : Nat) (q_22 : Nat) (q_23 : Nat) (q_24 : Nat) (q_25 : Nat) (x_0 : Int32) (x_1 : Int32) (x_2 : Int32) (x_3 : Int32) (x_4 : Int32) (x_5 : Int32) (g_6 : Int64) (x_7 : Int32) (x_8 : Int32) (x_9 : Int32) (x_10 : Int32) (x_11 : Int32) (x_12 : Int32) (x_13 : Int32) (x_14 : Int32) (g_15 : Int64) (g_16 : Int64) (x_17 : Int32) (x_18 : Int32) (x_19 : Int32) (x_20 : Int32) (x_21 : Int32) (x_22 : Int32) (x_23 : Int32) (x_24 : Int32) (x_25 : Int32) (x_26 : Int32) (x_27 : Int32) (x_28 : Int32) (x_29 : Int32) : zMi l yX12_isWord cX12_isWord 3 (some .boolean) ({ frames := 0, cells := 0, slots := 0, locals := 0 }) D k [.ref q_0, .long 631476] [(q_0, .inr (12, [.int x_0, .int x_1, .ref q_1, .ref q_2, .ref q_3, .int x_2, .ref q_4, .ref q_5, .ref q_6, .ref q_7, .ref q_8, .int x_3, .int x_4, .int x_5, .int 0, .long g_6, .int x_7, .int x_8, .int x_9, .ref q_9, .int x_10, .ref q_10, .ref q_11, .int x_11, .ref q_12, .ref q_13, .int x_12, .int x_13, .ref q_14, .ref q_15, .ref q_16, .ref q_17, .int x_14, .long g_15, .long g_16, .int x_17, .int x_18, .int x_19, .int x_20, .ref q_18, .ref q_19, .int x_21, .int x_22, .int x_23, .int x_24, .ref q_20, .ref q_21, .int x_25, .int x_26, .ref q_22, .ref q_23, .ref q_24, .ref q_25, .int x_27, .int x_28, .int x_29]))] (fun r u => u.1 = 0 ∧ r = 0) (fun u => [(q_0, .inr (12, [.int x_0, .int x_1, .ref q_1, .ref q_2, .ref q_3, .int x_2, .ref q_4, .ref q_5, .ref q_6, .ref q_7, .ref q_8, .int x_3, .int x_4, .int x_5, .int 0, .long g_6, .int x_7, .int x_8, .int x_9, .ref q_9, .int x_10, .ref q_10, .ref q_11, .int x_11, .ref q_12, .ref q_13, .int x_12, .int x_13, .ref q_14, .ref q_15, .ref q_16, .ref q_17, .int x_14, .long g_15, .long g_16, .int x_17, .int x_18, .int x_19, .int x_20, .ref q_18, .ref q_19, .int x_21, .int x_22, .int x_23, .int x_24, .ref q_20, .ref q_21, .int x_25, .int x_26, .ref q_22, .ref q_23, .ref q_24, .ref q_25, .int x_27, .int x_28, .int x_29]))]) := by
  refine zMi_of (own := RX12) (by decide +kernel) rfl (Nat.le_of_ble_eq_true rfl) ?_
  intro p e s m args below meth c A ls C0 hr hlk hin hP hD hS hA hK hN hl
  have hx := C0.1
  have hb := C0.2.1
  have hml := C0.2.2.1
  have hown := C0.2.2.2.1
  have hts := C0.2.2.2.2
  have hl : lv_has ls 3 [(0, .ref q_0), (1, .long 631476)] := hl
  have hP : va_P D vwCl [(q_0, .inr (12, [.int x_0, .int x_1, .ref q_1, .ref q_2, .ref q_3, .int x_2, .ref q_4, .ref q_5, .ref q_6, .ref q_7, .ref q_8, .int x_3, .int x_4, .int x_5, .int 0, .long g_6, .int x_7, .int x_8, .int x_9, .ref q_9, .int x_10, .ref q_10, .ref q_11, .int x_11, .ref q_12, .ref q_13, .int x_12, .int x_13, .ref q_14, .ref q_15, .ref q_16, .ref q_17, .int x_14, .long g_15, .long g_16, .int x_17, .int x_18, .int x_19, .int x_20, .ref q_18, .ref q_19, .int x_21, .int x_22, .int x_23, .int x_24, .ref q_20, .ref q_21, .int x_25, .int x_26, .ref q_22, .ref q_23, .ref q_24, .ref q_25, .int x_27, .int x_28, .int x_29]))] s.heap := hP
  refine lv_aload_n hx hb dX12_isWord_0 rfl (lv_at hl 0 rfl) ?_
  refine va_get (D := D) (ci := 12) (v := .int 0) (C := RX12) (T := TX12) (N := 56) hx hb hts inX12 hown hK hP 0 rfl rfl 14 (by decide) (hts _ kF_X12_222) (fun _ h9 => h9) rfl dX12_isWord_1 ?_
  refine lv_iconst (v := 1) hx hb dX12_isWord_4 (by decide) ?_
  refine lv_icmp_ne (tgt := 21) hx hb dX12_isWord_5 (by decide) (fun _ => ?_) (fun c1 => absurd c1 (by decide))
  refine lv_iconst (v := 0) hx hb dX12_isWord_21 (by decide) ?_
  exact z_iret C0 hr hlk rfl hK hP hD hS (0, fun _ => 0) ⟨rfl, rfl⟩ [0] rfl rfl rfl dX12_isWord_22

set_option maxHeartbeats 4000000 in
set_option maxRecDepth 100000 in
theorem c_X12_isWord_6 (l : Launch) (D : va_G) (k : Nat → ClassId) (q_0 : Nat) (q_1 : Nat) (q_2 : Nat) (q_3 : Nat) (q_4 : Nat) (q_5 : Nat) (q_6 : Nat) (q_7 : Nat) (q_8 : Nat) (q_9 : Nat) (q_10 : Nat) (q_11 : Nat) (q_12 : Nat) (q_13 : Nat) (q_14 : Nat) (q_15 : Nat) (q_16 : Nat) (q_17 : Nat) (q_18 : Nat) (q_19 : Nat) (q_20 : Nat) (q_21 : Nat) (q_22 : Nat) (q_23 : Nat) (q_24 : Nat) (q_25 : Nat) (x_0 : Int32) (x_1 : Int32) (x_2 : Int32) (x_3 : Int32) (x_4 : Int32) (x_5 : Int32) (g_6 : Int64) (x_7 : Int32) (x_8 : Int32) (x_9 : Int32) (x_10 : Int32) (x_11 : Int32) (x_12 : Int32) (x_13 : Int32) (x_14 : Int32) (g_15 : Int64) (g_16 : Int64) (x_17 : Int32) (x_18 : Int32) (x_19 : Int32) (x_20 : Int32) (x_21 : Int32) (x_22 : Int32) (x_23 : Int32) (x_24 : Int32) (x_25 : Int32) (x_26 : Int32) (x_27 : Int32) (x_28 : Int32) (x_29 : Int32) : zMi l yX12_isWord cX12_isWord 3 (some .boolean) ({ frames := 0, cells := 0, slots := 0, locals := 0 }) D k [.ref q_0, .long 15558] [(q_0, .inr (12, [.int x_0, .int x_1, .ref q_1, .ref q_2, .ref q_3, .int x_2, .ref q_4, .ref q_5, .ref q_6, .ref q_7, .ref q_8, .int x_3, .int x_4, .int x_5, .int 0, .long g_6, .int x_7, .int x_8, .int x_9, .ref q_9, .int x_10, .ref q_10, .ref q_11, .int x_11, .ref q_12, .ref q_13, .int x_12, .int x_13, .ref q_14, .ref q_15, .ref q_16, .ref q_17, .int x_14, .long g_15, .long g_16, .int x_17, .int x_18, .int x_19, .int x_20, .ref q_18, .ref q_19, .int x_21, .int x_22, .int x_23, .int x_24, .ref q_20, .ref q_21, .int x_25, .int x_26, .ref q_22, .ref q_23, .ref q_24, .ref q_25, .int x_27, .int x_28, .int x_29]))] (fun r u => u.1 = 0 ∧ r = 0) (fun u => [(q_0, .inr (12, [.int x_0, .int x_1, .ref q_1, .ref q_2, .ref q_3, .int x_2, .ref q_4, .ref q_5, .ref q_6, .ref q_7, .ref q_8, .int x_3, .int x_4, .int x_5, .int 0, .long g_6, .int x_7, .int x_8, .int x_9, .ref q_9, .int x_10, .ref q_10, .ref q_11, .int x_11, .ref q_12, .ref q_13, .int x_12, .int x_13, .ref q_14, .ref q_15, .ref q_16, .ref q_17, .int x_14, .long g_15, .long g_16, .int x_17, .int x_18, .int x_19, .int x_20, .ref q_18, .ref q_19, .int x_21, .int x_22, .int x_23, .int x_24, .ref q_20, .ref q_21, .int x_25, .int x_26, .ref q_22, .ref q_23, .ref q_24, .ref q_25, .int x_27, .int x_28, .int x_29]))]) := by
  refine zMi_of (own := RX12) (by decide +kernel) rfl (Nat.le_of_ble_eq_true rfl) ?_
  intro p e s m args below meth c A ls C0 hr hlk hin hP hD hS hA hK hN hl
  have hx := C0.1
  have hb := C0.2.1
  have hml := C0.2.2.1
  have hown := C0.2.2.2.1
  have hts := C0.2.2.2.2
  have hl : lv_has ls 3 [(0, .ref q_0), (1, .long 15558)] := hl
  have hP : va_P D vwCl [(q_0, .inr (12, [.int x_0, .int x_1, .ref q_1, .ref q_2, .ref q_3, .int x_2, .ref q_4, .ref q_5, .ref q_6, .ref q_7, .ref q_8, .int x_3, .int x_4, .int x_5, .int 0, .long g_6, .int x_7, .int x_8, .int x_9, .ref q_9, .int x_10, .ref q_10, .ref q_11, .int x_11, .ref q_12, .ref q_13, .int x_12, .int x_13, .ref q_14, .ref q_15, .ref q_16, .ref q_17, .int x_14, .long g_15, .long g_16, .int x_17, .int x_18, .int x_19, .int x_20, .ref q_18, .ref q_19, .int x_21, .int x_22, .int x_23, .int x_24, .ref q_20, .ref q_21, .int x_25, .int x_26, .ref q_22, .ref q_23, .ref q_24, .ref q_25, .int x_27, .int x_28, .int x_29]))] s.heap := hP
  refine lv_aload_n hx hb dX12_isWord_0 rfl (lv_at hl 0 rfl) ?_
  refine va_get (D := D) (ci := 12) (v := .int 0) (C := RX12) (T := TX12) (N := 56) hx hb hts inX12 hown hK hP 0 rfl rfl 14 (by decide) (hts _ kF_X12_222) (fun _ h9 => h9) rfl dX12_isWord_1 ?_
  refine lv_iconst (v := 1) hx hb dX12_isWord_4 (by decide) ?_
  refine lv_icmp_ne (tgt := 21) hx hb dX12_isWord_5 (by decide) (fun _ => ?_) (fun c1 => absurd c1 (by decide))
  refine lv_iconst (v := 0) hx hb dX12_isWord_21 (by decide) ?_
  exact z_iret C0 hr hlk rfl hK hP hD hS (0, fun _ => 0) ⟨rfl, rfl⟩ [0] rfl rfl rfl dX12_isWord_22

set_option maxHeartbeats 4000000 in
set_option maxRecDepth 100000 in
theorem c_X12_headAt_1 (l : Launch) (D : va_G) (k : Nat → ClassId) (q_0 : Nat) (q_1 : Nat) (q_2 : Nat) (q_3 : Nat) (q_4 : Nat) (q_5 : Nat) (q_6 : Nat) (q_7 : Nat) (q_8 : Nat) (q_9 : Nat) (q_10 : Nat) (q_11 : Nat) (q_12 : Nat) (q_13 : Nat) (q_14 : Nat) (q_15 : Nat) (q_16 : Nat) (q_17 : Nat) (q_18 : Nat) (q_19 : Nat) (q_20 : Nat) (q_21 : Nat) (q_22 : Nat) (q_23 : Nat) (q_24 : Nat) (q_25 : Nat) (x_0 : Int32) (x_1 : Int32) (x_2 : Int32) (x_3 : Int32) (x_4 : Int32) (x_5 : Int32) (g_6 : Int64) (x_7 : Int32) (x_8 : Int32) (x_9 : Int32) (x_10 : Int32) (x_11 : Int32) (x_12 : Int32) (x_13 : Int32) (x_14 : Int32) (g_15 : Int64) (g_16 : Int64) (x_17 : Int32) (x_18 : Int32) (x_19 : Int32) (x_20 : Int32) (x_21 : Int32) (x_22 : Int32) (x_23 : Int32) (x_24 : Int32) (x_25 : Int32) (x_26 : Int32) (x_27 : Int32) (x_28 : Int32) (x_29 : Int32) : zMi l yX12_headAt cX12_headAt 1 (some .int) ({ frames := 1, cells := 0, slots := 0, locals := 22 }) D k [.ref q_0] [(q_0, .inr (12, [.int x_0, .int x_1, .ref q_1, .ref q_2, .ref q_3, .int x_2, .ref q_4, .ref q_5, .ref q_6, .ref q_7, .ref q_8, .int x_3, .int x_4, .int x_5, .int 0, .long g_6, .int x_7, .int x_8, .int x_9, .ref q_9, .int x_10, .ref q_10, .ref q_11, .int x_11, .ref q_12, .ref q_13, .int x_12, .int x_13, .ref q_14, .ref q_15, .ref q_16, .ref q_17, .int x_14, .long g_15, .long g_16, .int x_17, .int x_18, .int x_19, .int x_20, .ref q_18, .ref q_19, .int x_21, .int x_22, .int x_23, .int x_24, .ref q_20, .ref q_21, .int x_25, .int x_26, .ref q_22, .ref q_23, .ref q_24, .ref q_25, .int x_27, .int x_28, .int x_29]))] (fun r u => u.1 = 0 ∧ r = (-1)) (fun u => [(q_0, .inr (12, [.int x_0, .int x_1, .ref q_1, .ref q_2, .ref q_3, .int x_2, .ref q_4, .ref q_5, .ref q_6, .ref q_7, .ref q_8, .int x_3, .int x_4, .int x_5, .int 0, .long g_6, .int x_7, .int x_8, .int x_9, .ref q_9, .int x_10, .ref q_10, .ref q_11, .int x_11, .ref q_12, .ref q_13, .int x_12, .int x_13, .ref q_14, .ref q_15, .ref q_16, .ref q_17, .int x_14, .long g_15, .long g_16, .int x_17, .int x_18, .int x_19, .int x_20, .ref q_18, .ref q_19, .int x_21, .int x_22, .int x_23, .int x_24, .ref q_20, .ref q_21, .int x_25, .int x_26, .ref q_22, .ref q_23, .ref q_24, .ref q_25, .int x_27, .int x_28, .int x_29]))]) := by
  refine zMi_of (own := RX12) (by decide +kernel) rfl (Nat.le_of_ble_eq_true rfl) ?_
  intro p e s m args below meth c A ls C0 hr hlk hin hP hD hS hA hK hN hl
  have hx := C0.1
  have hb := C0.2.1
  have hml := C0.2.2.1
  have hown := C0.2.2.2.1
  have hts := C0.2.2.2.2
  have hl : lv_has ls 1 [(0, .ref q_0)] := hl
  have hP : va_P D vwCl [(q_0, .inr (12, [.int x_0, .int x_1, .ref q_1, .ref q_2, .ref q_3, .int x_2, .ref q_4, .ref q_5, .ref q_6, .ref q_7, .ref q_8, .int x_3, .int x_4, .int x_5, .int 0, .long g_6, .int x_7, .int x_8, .int x_9, .ref q_9, .int x_10, .ref q_10, .ref q_11, .int x_11, .ref q_12, .ref q_13, .int x_12, .int x_13, .ref q_14, .ref q_15, .ref q_16, .ref q_17, .int x_14, .long g_15, .long g_16, .int x_17, .int x_18, .int x_19, .int x_20, .ref q_18, .ref q_19, .int x_21, .int x_22, .int x_23, .int x_24, .ref q_20, .ref q_21, .int x_25, .int x_26, .ref q_22, .ref q_23, .ref q_24, .ref q_25, .int x_27, .int x_28, .int x_29]))] s.heap := hP
  refine lv_aload_n hx hb dX12_headAt_0 rfl (lv_at hl 0 rfl) ?_
  refine lv_ldc2 hx hb hown (hts _ kL_X12_344) dX12_headAt_1 ?_
  refine z_bi (wr := []) (z_runV (C := RX12) (As := [.long 659105125]) (rest := []) C0 (c_X12_isWord_1 l D k q_0 q_1 q_2 q_3 q_4 q_5 q_6 q_7 q_8 q_9 q_10 q_11 q_12 q_13 q_14 q_15 q_16 q_17 q_18 q_19 q_20 q_21 q_22 q_23 q_24 q_25 x_0 x_1 x_2 x_3 x_4 x_5 g_6 x_7 x_8 x_9 x_10 x_11 x_12 x_13 x_14 g_15 g_16 x_17 x_18 x_19 x_20 x_21 x_22 x_23 x_24 x_25 x_26 x_27 x_28 x_29 _) okV_X12_isWord kM_X12_261 rfl (z_pV (q0 := 0) hK hN hP hD [0] rfl rfl rfl rfl rfl) rfl hl.1 rfl (Nat.le_of_ble_eq_true rfl) dX12_headAt_4 rfl) hP hD hS hA [0] [] rfl rfl rfl rfl (fun r1 u1 H locs hw1 hP hD hS => ?_)
  obtain ⟨i1, a1⟩ := u1
  dsimp only at hw1
  obtain ⟨rfl, rfl⟩ := hw1
  have hP : va_P D vwCl [(q_0, .inr (12, [.int x_0, .int x_1, .ref q_1, .ref q_2, .ref q_3, .int x_2, .ref q_4, .ref q_5, .ref q_6, .ref q_7, .ref q_8, .int x_3, .int x_4, .int x_5, .int 0, .long g_6, .int x_7, .int x_8, .int x_9, .ref q_9, .int x_10, .ref q_10, .ref q_11, .int x_11, .ref q_12, .ref q_13, .int x_12, .int x_13, .ref q_14, .ref q_15, .ref q_16, .ref q_17, .int x_14, .long g_15, .long g_16, .int x_17, .int x_18, .int x_19, .int x_20, .ref q_18, .ref q_19, .int x_21, .int x_22, .int x_23, .int x_24, .ref q_20, .ref q_21, .int x_25, .int x_26, .ref q_22, .ref q_23, .ref q_24, .ref q_25, .int x_27, .int x_28, .int x_29]))] H := hP
  have hD : va_D A [(q_0, .inr (12, [.int x_0, .int x_1, .ref q_1, .ref q_2, .ref q_3, .int x_2, .ref q_4, .ref q_5, .ref q_6, .ref q_7, .ref q_8, .int x_3, .int x_4, .int x_5, .int 0, .long g_6, .int x_7, .int x_8, .int x_9, .ref q_9, .int x_10, .ref q_10, .ref q_11, .int x_11, .ref q_12, .ref q_13, .int x_12, .int x_13, .ref q_14, .ref q_15, .ref q_16, .ref q_17, .int x_14, .long g_15, .long g_16, .int x_17, .int x_18, .int x_19, .int x_20, .ref q_18, .ref q_19, .int x_21, .int x_22, .int x_23, .int x_24, .ref q_20, .ref q_21, .int x_25, .int x_26, .ref q_22, .ref q_23, .ref q_24, .ref q_25, .int x_27, .int x_28, .int x_29]))] := hD
  refine lv_if_ne (tgt := 30) hx hb dX12_headAt_7 (by decide) (fun c2 => absurd (by decide) c2) (fun _ => ?_)
  refine lv_aload_n hx hb dX12_headAt_10 rfl (lv_at hl 0 rfl) ?_
  refine lv_ldc2 hx hb hown (hts _ kL_X12_346) dX12_headAt_11 ?_
  refine z_bi (wr := []) (z_runV (C := RX12) (As := [.long 113797]) (rest := []) C0 (c_X12_isWord_2 l D k q_0 q_1 q_2 q_3 q_4 q_5 q_6 q_7 q_8 q_9 q_10 q_11 q_12 q_13 q_14 q_15 q_16 q_17 q_18 q_19 q_20 q_21 q_22 q_23 q_24 q_25 x_0 x_1 x_2 x_3 x_4 x_5 g_6 x_7 x_8 x_9 x_10 x_11 x_12 x_13 x_14 g_15 g_16 x_17 x_18 x_19 x_20 x_21 x_22 x_23 x_24 x_25 x_26 x_27 x_28 x_29 _) okV_X12_isWord kM_X12_261 rfl (z_pV (q0 := 0) hK hN hP hD [0] rfl rfl rfl rfl rfl) rfl hl.1 rfl (Nat.le_of_ble_eq_true rfl) dX12_headAt_14 rfl) hP hD hS hA [0] [] rfl rfl rfl rfl (fun r3 u3 H locs hw3 hP hD hS => ?_)
  obtain ⟨i3, a3⟩ := u3
  dsimp only at hw3
  obtain ⟨rfl, rfl⟩ := hw3
  have hP : va_P D vwCl [(q_0, .inr (12, [.int x_0, .int x_1, .ref q_1, .ref q_2, .ref q_3, .int x_2, .ref q_4, .ref q_5, .ref q_6, .ref q_7, .ref q_8, .int x_3, .int x_4, .int x_5, .int 0, .long g_6, .int x_7, .int x_8, .int x_9, .ref q_9, .int x_10, .ref q_10, .ref q_11, .int x_11, .ref q_12, .ref q_13, .int x_12, .int x_13, .ref q_14, .ref q_15, .ref q_16, .ref q_17, .int x_14, .long g_15, .long g_16, .int x_17, .int x_18, .int x_19, .int x_20, .ref q_18, .ref q_19, .int x_21, .int x_22, .int x_23, .int x_24, .ref q_20, .ref q_21, .int x_25, .int x_26, .ref q_22, .ref q_23, .ref q_24, .ref q_25, .int x_27, .int x_28, .int x_29]))] H := hP
  have hD : va_D A [(q_0, .inr (12, [.int x_0, .int x_1, .ref q_1, .ref q_2, .ref q_3, .int x_2, .ref q_4, .ref q_5, .ref q_6, .ref q_7, .ref q_8, .int x_3, .int x_4, .int x_5, .int 0, .long g_6, .int x_7, .int x_8, .int x_9, .ref q_9, .int x_10, .ref q_10, .ref q_11, .int x_11, .ref q_12, .ref q_13, .int x_12, .int x_13, .ref q_14, .ref q_15, .ref q_16, .ref q_17, .int x_14, .long g_15, .long g_16, .int x_17, .int x_18, .int x_19, .int x_20, .ref q_18, .ref q_19, .int x_21, .int x_22, .int x_23, .int x_24, .ref q_20, .ref q_21, .int x_25, .int x_26, .ref q_22, .ref q_23, .ref q_24, .ref q_25, .int x_27, .int x_28, .int x_29]))] := hD
  refine lv_if_ne (tgt := 30) hx hb dX12_headAt_17 (by decide) (fun c4 => absurd (by decide) c4) (fun _ => ?_)
  refine lv_aload_n hx hb dX12_headAt_20 rfl (lv_at hl 0 rfl) ?_
  refine lv_ldc2 hx hb hown (hts _ kL_X12_348) dX12_headAt_21 ?_
  refine z_bi (wr := []) (z_runV (C := RX12) (As := [.long 643248]) (rest := []) C0 (c_X12_isWord_3 l D k q_0 q_1 q_2 q_3 q_4 q_5 q_6 q_7 q_8 q_9 q_10 q_11 q_12 q_13 q_14 q_15 q_16 q_17 q_18 q_19 q_20 q_21 q_22 q_23 q_24 q_25 x_0 x_1 x_2 x_3 x_4 x_5 g_6 x_7 x_8 x_9 x_10 x_11 x_12 x_13 x_14 g_15 g_16 x_17 x_18 x_19 x_20 x_21 x_22 x_23 x_24 x_25 x_26 x_27 x_28 x_29 _) okV_X12_isWord kM_X12_261 rfl (z_pV (q0 := 0) hK hN hP hD [0] rfl rfl rfl rfl rfl) rfl hl.1 rfl (Nat.le_of_ble_eq_true rfl) dX12_headAt_24 rfl) hP hD hS hA [0] [] rfl rfl rfl rfl (fun r5 u5 H locs hw5 hP hD hS => ?_)
  obtain ⟨i5, a5⟩ := u5
  dsimp only at hw5
  obtain ⟨rfl, rfl⟩ := hw5
  have hP : va_P D vwCl [(q_0, .inr (12, [.int x_0, .int x_1, .ref q_1, .ref q_2, .ref q_3, .int x_2, .ref q_4, .ref q_5, .ref q_6, .ref q_7, .ref q_8, .int x_3, .int x_4, .int x_5, .int 0, .long g_6, .int x_7, .int x_8, .int x_9, .ref q_9, .int x_10, .ref q_10, .ref q_11, .int x_11, .ref q_12, .ref q_13, .int x_12, .int x_13, .ref q_14, .ref q_15, .ref q_16, .ref q_17, .int x_14, .long g_15, .long g_16, .int x_17, .int x_18, .int x_19, .int x_20, .ref q_18, .ref q_19, .int x_21, .int x_22, .int x_23, .int x_24, .ref q_20, .ref q_21, .int x_25, .int x_26, .ref q_22, .ref q_23, .ref q_24, .ref q_25, .int x_27, .int x_28, .int x_29]))] H := hP
  have hD : va_D A [(q_0, .inr (12, [.int x_0, .int x_1, .ref q_1, .ref q_2, .ref q_3, .int x_2, .ref q_4, .ref q_5, .ref q_6, .ref q_7, .ref q_8, .int x_3, .int x_4, .int x_5, .int 0, .long g_6, .int x_7, .int x_8, .int x_9, .ref q_9, .int x_10, .ref q_10, .ref q_11, .int x_11, .ref q_12, .ref q_13, .int x_12, .int x_13, .ref q_14, .ref q_15, .ref q_16, .ref q_17, .int x_14, .long g_15, .long g_16, .int x_17, .int x_18, .int x_19, .int x_20, .ref q_18, .ref q_19, .int x_21, .int x_22, .int x_23, .int x_24, .ref q_20, .ref q_21, .int x_25, .int x_26, .ref q_22, .ref q_23, .ref q_24, .ref q_25, .int x_27, .int x_28, .int x_29]))] := hD
  refine lv_if_eq (tgt := 60) hx hb dX12_headAt_27 (by decide) (fun _ => ?_) (fun c6 => absurd (by decide) c6)
  refine lv_aload_n hx hb dX12_headAt_60 rfl (lv_at hl 0 rfl) ?_
  refine lv_ldc2 hx hb hown (hts _ kL_X12_350) dX12_headAt_61 ?_
  refine z_bi (wr := []) (z_runV (C := RX12) (As := [.long 206277]) (rest := []) C0 (c_X12_isWord_4 l D k q_0 q_1 q_2 q_3 q_4 q_5 q_6 q_7 q_8 q_9 q_10 q_11 q_12 q_13 q_14 q_15 q_16 q_17 q_18 q_19 q_20 q_21 q_22 q_23 q_24 q_25 x_0 x_1 x_2 x_3 x_4 x_5 g_6 x_7 x_8 x_9 x_10 x_11 x_12 x_13 x_14 g_15 g_16 x_17 x_18 x_19 x_20 x_21 x_22 x_23 x_24 x_25 x_26 x_27 x_28 x_29 _) okV_X12_isWord kM_X12_261 rfl (z_pV (q0 := 0) hK hN hP hD [0] rfl rfl rfl rfl rfl) rfl hl.1 rfl (Nat.le_of_ble_eq_true rfl) dX12_headAt_64 rfl) hP hD hS hA [0] [] rfl rfl rfl rfl (fun r7 u7 H locs hw7 hP hD hS => ?_)
  obtain ⟨i7, a7⟩ := u7
  dsimp only at hw7
  obtain ⟨rfl, rfl⟩ := hw7
  have hP : va_P D vwCl [(q_0, .inr (12, [.int x_0, .int x_1, .ref q_1, .ref q_2, .ref q_3, .int x_2, .ref q_4, .ref q_5, .ref q_6, .ref q_7, .ref q_8, .int x_3, .int x_4, .int x_5, .int 0, .long g_6, .int x_7, .int x_8, .int x_9, .ref q_9, .int x_10, .ref q_10, .ref q_11, .int x_11, .ref q_12, .ref q_13, .int x_12, .int x_13, .ref q_14, .ref q_15, .ref q_16, .ref q_17, .int x_14, .long g_15, .long g_16, .int x_17, .int x_18, .int x_19, .int x_20, .ref q_18, .ref q_19, .int x_21, .int x_22, .int x_23, .int x_24, .ref q_20, .ref q_21, .int x_25, .int x_26, .ref q_22, .ref q_23, .ref q_24, .ref q_25, .int x_27, .int x_28, .int x_29]))] H := hP
  have hD : va_D A [(q_0, .inr (12, [.int x_0, .int x_1, .ref q_1, .ref q_2, .ref q_3, .int x_2, .ref q_4, .ref q_5, .ref q_6, .ref q_7, .ref q_8, .int x_3, .int x_4, .int x_5, .int 0, .long g_6, .int x_7, .int x_8, .int x_9, .ref q_9, .int x_10, .ref q_10, .ref q_11, .int x_11, .ref q_12, .ref q_13, .int x_12, .int x_13, .ref q_14, .ref q_15, .ref q_16, .ref q_17, .int x_14, .long g_15, .long g_16, .int x_17, .int x_18, .int x_19, .int x_20, .ref q_18, .ref q_19, .int x_21, .int x_22, .int x_23, .int x_24, .ref q_20, .ref q_21, .int x_25, .int x_26, .ref q_22, .ref q_23, .ref q_24, .ref q_25, .int x_27, .int x_28, .int x_29]))] := hD
  refine lv_if_eq (tgt := 74) hx hb dX12_headAt_67 (by decide) (fun _ => ?_) (fun c8 => absurd (by decide) c8)
  refine lv_aload_n hx hb dX12_headAt_74 rfl (lv_at hl 0 rfl) ?_
  refine lv_ldc2 hx hb hown (hts _ kL_X12_352) dX12_headAt_75 ?_
  refine z_bi (wr := []) (z_runV (C := RX12) (As := [.long 631476]) (rest := []) C0 (c_X12_isWord_5 l D k q_0 q_1 q_2 q_3 q_4 q_5 q_6 q_7 q_8 q_9 q_10 q_11 q_12 q_13 q_14 q_15 q_16 q_17 q_18 q_19 q_20 q_21 q_22 q_23 q_24 q_25 x_0 x_1 x_2 x_3 x_4 x_5 g_6 x_7 x_8 x_9 x_10 x_11 x_12 x_13 x_14 g_15 g_16 x_17 x_18 x_19 x_20 x_21 x_22 x_23 x_24 x_25 x_26 x_27 x_28 x_29 _) okV_X12_isWord kM_X12_261 rfl (z_pV (q0 := 0) hK hN hP hD [0] rfl rfl rfl rfl rfl) rfl hl.1 rfl (Nat.le_of_ble_eq_true rfl) dX12_headAt_78 rfl) hP hD hS hA [0] [] rfl rfl rfl rfl (fun r9 u9 H locs hw9 hP hD hS => ?_)
  obtain ⟨i9, a9⟩ := u9
  dsimp only at hw9
  obtain ⟨rfl, rfl⟩ := hw9
  have hP : va_P D vwCl [(q_0, .inr (12, [.int x_0, .int x_1, .ref q_1, .ref q_2, .ref q_3, .int x_2, .ref q_4, .ref q_5, .ref q_6, .ref q_7, .ref q_8, .int x_3, .int x_4, .int x_5, .int 0, .long g_6, .int x_7, .int x_8, .int x_9, .ref q_9, .int x_10, .ref q_10, .ref q_11, .int x_11, .ref q_12, .ref q_13, .int x_12, .int x_13, .ref q_14, .ref q_15, .ref q_16, .ref q_17, .int x_14, .long g_15, .long g_16, .int x_17, .int x_18, .int x_19, .int x_20, .ref q_18, .ref q_19, .int x_21, .int x_22, .int x_23, .int x_24, .ref q_20, .ref q_21, .int x_25, .int x_26, .ref q_22, .ref q_23, .ref q_24, .ref q_25, .int x_27, .int x_28, .int x_29]))] H := hP
  have hD : va_D A [(q_0, .inr (12, [.int x_0, .int x_1, .ref q_1, .ref q_2, .ref q_3, .int x_2, .ref q_4, .ref q_5, .ref q_6, .ref q_7, .ref q_8, .int x_3, .int x_4, .int x_5, .int 0, .long g_6, .int x_7, .int x_8, .int x_9, .ref q_9, .int x_10, .ref q_10, .ref q_11, .int x_11, .ref q_12, .ref q_13, .int x_12, .int x_13, .ref q_14, .ref q_15, .ref q_16, .ref q_17, .int x_14, .long g_15, .long g_16, .int x_17, .int x_18, .int x_19, .int x_20, .ref q_18, .ref q_19, .int x_21, .int x_22, .int x_23, .int x_24, .ref q_20, .ref q_21, .int x_25, .int x_26, .ref q_22, .ref q_23, .ref q_24, .ref q_25, .int x_27, .int x_28, .int x_29]))] := hD
  refine lv_if_eq (tgt := 88) hx hb dX12_headAt_81 (by decide) (fun _ => ?_) (fun c10 => absurd (by decide) c10)
  refine lv_aload_n hx hb dX12_headAt_88 rfl (lv_at hl 0 rfl) ?_
  refine lv_ldc2 hx hb hown (hts _ kL_X12_354) dX12_headAt_89 ?_
  refine z_bi (wr := []) (z_runV (C := RX12) (As := [.long 15558]) (rest := []) C0 (c_X12_isWord_6 l D k q_0 q_1 q_2 q_3 q_4 q_5 q_6 q_7 q_8 q_9 q_10 q_11 q_12 q_13 q_14 q_15 q_16 q_17 q_18 q_19 q_20 q_21 q_22 q_23 q_24 q_25 x_0 x_1 x_2 x_3 x_4 x_5 g_6 x_7 x_8 x_9 x_10 x_11 x_12 x_13 x_14 g_15 g_16 x_17 x_18 x_19 x_20 x_21 x_22 x_23 x_24 x_25 x_26 x_27 x_28 x_29 _) okV_X12_isWord kM_X12_261 rfl (z_pV (q0 := 0) hK hN hP hD [0] rfl rfl rfl rfl rfl) rfl hl.1 rfl (Nat.le_of_ble_eq_true rfl) dX12_headAt_92 rfl) hP hD hS hA [0] [] rfl rfl rfl rfl (fun r11 u11 H locs hw11 hP hD hS => ?_)
  obtain ⟨i11, a11⟩ := u11
  dsimp only at hw11
  obtain ⟨rfl, rfl⟩ := hw11
  have hP : va_P D vwCl [(q_0, .inr (12, [.int x_0, .int x_1, .ref q_1, .ref q_2, .ref q_3, .int x_2, .ref q_4, .ref q_5, .ref q_6, .ref q_7, .ref q_8, .int x_3, .int x_4, .int x_5, .int 0, .long g_6, .int x_7, .int x_8, .int x_9, .ref q_9, .int x_10, .ref q_10, .ref q_11, .int x_11, .ref q_12, .ref q_13, .int x_12, .int x_13, .ref q_14, .ref q_15, .ref q_16, .ref q_17, .int x_14, .long g_15, .long g_16, .int x_17, .int x_18, .int x_19, .int x_20, .ref q_18, .ref q_19, .int x_21, .int x_22, .int x_23, .int x_24, .ref q_20, .ref q_21, .int x_25, .int x_26, .ref q_22, .ref q_23, .ref q_24, .ref q_25, .int x_27, .int x_28, .int x_29]))] H := hP
  have hD : va_D A [(q_0, .inr (12, [.int x_0, .int x_1, .ref q_1, .ref q_2, .ref q_3, .int x_2, .ref q_4, .ref q_5, .ref q_6, .ref q_7, .ref q_8, .int x_3, .int x_4, .int x_5, .int 0, .long g_6, .int x_7, .int x_8, .int x_9, .ref q_9, .int x_10, .ref q_10, .ref q_11, .int x_11, .ref q_12, .ref q_13, .int x_12, .int x_13, .ref q_14, .ref q_15, .ref q_16, .ref q_17, .int x_14, .long g_15, .long g_16, .int x_17, .int x_18, .int x_19, .int x_20, .ref q_18, .ref q_19, .int x_21, .int x_22, .int x_23, .int x_24, .ref q_20, .ref q_21, .int x_25, .int x_26, .ref q_22, .ref q_23, .ref q_24, .ref q_25, .int x_27, .int x_28, .int x_29]))] := hD
  refine lv_if_eq (tgt := 102) hx hb dX12_headAt_95 (by decide) (fun _ => ?_) (fun c12 => absurd (by decide) c12)
  refine lv_iconst (v := (-1)) hx hb dX12_headAt_102 (by decide) ?_
  exact z_iret C0 hr hlk rfl hK hP hD hS (0, fun _ => 0) ⟨rfl, rfl⟩ [0] rfl rfl rfl dX12_headAt_103

set_option maxHeartbeats 4000000 in
set_option maxRecDepth 100000 in
theorem c_X12_must_1 (l : Launch) (D : va_G) (k : Nat → ClassId) (q_0 : Nat) (q_1 : Nat) (q_2 : Nat) (q_3 : Nat) (q_4 : Nat) (q_5 : Nat) (q_6 : Nat) (q_7 : Nat) (q_8 : Nat) (q_9 : Nat) (q_10 : Nat) (q_11 : Nat) (q_12 : Nat) (q_13 : Nat) (q_14 : Nat) (q_15 : Nat) (q_16 : Nat) (q_17 : Nat) (q_18 : Nat) (q_19 : Nat) (q_20 : Nat) (q_21 : Nat) (q_22 : Nat) (q_23 : Nat) (q_24 : Nat) (q_25 : Nat) (x_0 : Int32) (x_1 : Int32) (x_2 : Int32) (x_3 : Int32) (x_4 : Int32) (x_5 : Int32) (g_6 : Int64) (x_7 : Int32) (x_8 : Int32) (x_9 : Int32) (x_10 : Int32) (x_11 : Int32) (x_12 : Int32) (x_13 : Int32) (g_14 : Int64) (g_15 : Int64) (x_16 : Int32) (x_17 : Int32) (x_18 : Int32) (x_19 : Int32) (x_20 : Int32) (x_21 : Int32) (x_22 : Int32) (x_23 : Int32) (x_24 : Int32) (x_25 : Int32) (x_26 : Int32) (x_27 : Int32) (x_28 : Int32) : zMv l yX12_must cX12_must 2 none ({ frames := 0, cells := 0, slots := 0, locals := 0 }) D k [.ref q_0, .int 0] [(q_0, .inr (12, [.int x_0, .int x_1, .ref q_1, .ref q_2, .ref q_3, .int x_2, .ref q_4, .ref q_5, .ref q_6, .ref q_7, .ref q_8, .int x_3, .int 0, .int x_4, .int x_5, .long g_6, .int x_7, .int 0, .int x_8, .ref q_9, .int x_9, .ref q_10, .ref q_11, .int x_10, .ref q_12, .ref q_13, .int x_11, .int x_12, .ref q_14, .ref q_15, .ref q_16, .ref q_17, .int x_13, .long g_14, .long g_15, .int x_16, .int x_17, .int x_18, .int x_19, .ref q_18, .ref q_19, .int x_20, .int x_21, .int x_22, .int x_23, .ref q_20, .ref q_21, .int x_24, .int x_25, .ref q_22, .ref q_23, .ref q_24, .ref q_25, .int x_26, .int x_27, .int x_28]))] (fun u => u.1 = 0) (fun u => [(q_0, .inr (12, [.int x_0, .int x_1, .ref q_1, .ref q_2, .ref q_3, .int x_2, .ref q_4, .ref q_5, .ref q_6, .ref q_7, .ref q_8, .int x_3, .int 0, .int x_4, .int x_5, .long g_6, .int 0, .int 1, .int x_8, .ref q_9, .int x_9, .ref q_10, .ref q_11, .int x_10, .ref q_12, .ref q_13, .int x_11, .int x_12, .ref q_14, .ref q_15, .ref q_16, .ref q_17, .int x_13, .long g_14, .long g_15, .int x_16, .int x_17, .int x_18, .int x_19, .ref q_18, .ref q_19, .int x_20, .int x_21, .int x_22, .int x_23, .ref q_20, .ref q_21, .int x_24, .int x_25, .ref q_22, .ref q_23, .ref q_24, .ref q_25, .int x_26, .int x_27, .int x_28]))]) := by
  refine zMv_of (own := RX12) (by decide +kernel) rfl (Nat.le_of_ble_eq_true rfl) ?_
  intro p e s m args below meth c A ls C0 hr hlk hin hP hD hS hA hK hN hl
  have hx := C0.1
  have hb := C0.2.1
  have hml := C0.2.2.1
  have hown := C0.2.2.2.1
  have hts := C0.2.2.2.2
  have hl : lv_has ls 2 [(0, .ref q_0), (1, .int 0)] := hl
  have hP : va_P D vwCl [(q_0, .inr (12, [.int x_0, .int x_1, .ref q_1, .ref q_2, .ref q_3, .int x_2, .ref q_4, .ref q_5, .ref q_6, .ref q_7, .ref q_8, .int x_3, .int 0, .int x_4, .int x_5, .long g_6, .int x_7, .int 0, .int x_8, .ref q_9, .int x_9, .ref q_10, .ref q_11, .int x_10, .ref q_12, .ref q_13, .int x_11, .int x_12, .ref q_14, .ref q_15, .ref q_16, .ref q_17, .int x_13, .long g_14, .long g_15, .int x_16, .int x_17, .int x_18, .int x_19, .ref q_18, .ref q_19, .int x_20, .int x_21, .int x_22, .int x_23, .ref q_20, .ref q_21, .int x_24, .int x_25, .ref q_22, .ref q_23, .ref q_24, .ref q_25, .int x_26, .int x_27, .int x_28]))] s.heap := hP
  refine lv_aload_n hx hb dX12_must_0 rfl (lv_at hl 0 rfl) ?_
  refine va_get (D := D) (ci := 12) (v := .int 0) (C := RX12) (T := TX12) (N := 56) hx hb hts inX12 hown hK hP 0 rfl rfl 17 (by decide) (hts _ kF_X12_202) (fun _ h9 => h9) rfl dX12_must_1 ?_
  refine lv_if_ne (tgt := 24) hx hb dX12_must_4 (by decide) (fun c1 => absurd (by decide) c1) (fun _ => ?_)
  refine lv_iload_n hx hb dX12_must_7 rfl (lv_at hl 1 rfl) ?_
  refine lv_if_ne (tgt := 24) hx hb dX12_must_8 (by decide) (fun c2 => absurd (by decide) c2) (fun _ => ?_)
  refine lv_aload_n hx hb dX12_must_11 rfl (lv_at hl 0 rfl) ?_
  refine lv_iconst (v := 1) hx hb dX12_must_12 (by decide) ?_
  refine va_put (D := D) (ci := 12) (v := .int 1) (ty := .boolean) (C := RX12) (T := TX12) (N := 56) hx hb hts inX12 tyX12 tyX12_ok nmX12 hown hK hP hD hS 0 rfl rfl 17 (by decide) (hts _ kF_X12_202) (fun _ h9 => h9) rfl (by decide +kernel) rfl rfl (Nat.le_of_ble_eq_true rfl) dX12_must_13 (fun H locs hP hD hS => ?_)
  have hP : va_P D vwCl [(q_0, .inr (12, [.int x_0, .int x_1, .ref q_1, .ref q_2, .ref q_3, .int x_2, .ref q_4, .ref q_5, .ref q_6, .ref q_7, .ref q_8, .int x_3, .int 0, .int x_4, .int x_5, .long g_6, .int x_7, .int 1, .int x_8, .ref q_9, .int x_9, .ref q_10, .ref q_11, .int x_10, .ref q_12, .ref q_13, .int x_11, .int x_12, .ref q_14, .ref q_15, .ref q_16, .ref q_17, .int x_13, .long g_14, .long g_15, .int x_16, .int x_17, .int x_18, .int x_19, .ref q_18, .ref q_19, .int x_20, .int x_21, .int x_22, .int x_23, .ref q_20, .ref q_21, .int x_24, .int x_25, .ref q_22, .ref q_23, .ref q_24, .ref q_25, .int x_26, .int x_27, .int x_28]))] H := hP
  have hD : va_D A [(q_0, .inr (12, [.int x_0, .int x_1, .ref q_1, .ref q_2, .ref q_3, .int x_2, .ref q_4, .ref q_5, .ref q_6, .ref q_7, .ref q_8, .int x_3, .int 0, .int x_4, .int x_5, .long g_6, .int x_7, .int 1, .int x_8, .ref q_9, .int x_9, .ref q_10, .ref q_11, .int x_10, .ref q_12, .ref q_13, .int x_11, .int x_12, .ref q_14, .ref q_15, .ref q_16, .ref q_17, .int x_13, .long g_14, .long g_15, .int x_16, .int x_17, .int x_18, .int x_19, .ref q_18, .ref q_19, .int x_20, .int x_21, .int x_22, .int x_23, .ref q_20, .ref q_21, .int x_24, .int x_25, .ref q_22, .ref q_23, .ref q_24, .ref q_25, .int x_26, .int x_27, .int x_28]))] := hD
  refine lv_aload_n hx hb dX12_must_16 rfl (lv_at hl 0 rfl) ?_
  refine lv_aload_n hx hb dX12_must_17 rfl (lv_at hl 0 rfl) ?_
  refine va_get (D := D) (ci := 12) (v := .int 0) (C := RX12) (T := TX12) (N := 56) hx hb hts inX12 hown hK hP 0 rfl rfl 12 (by decide) (hts _ kF_X12_209) (fun _ h9 => h9) rfl dX12_must_18 ?_
  refine va_put (D := D) (ci := 12) (v := .int 0) (ty := .int) (C := RX12) (T := TX12) (N := 56) hx hb hts inX12 tyX12 tyX12_ok nmX12 hown hK hP hD hS 0 rfl rfl 16 (by decide) (hts _ kF_X12_36) (fun _ h9 => h9) rfl (by decide +kernel) rfl rfl (Nat.le_of_ble_eq_true rfl) dX12_must_21 (fun H locs hP hD hS => ?_)
  have hP : va_P D vwCl [(q_0, .inr (12, [.int x_0, .int x_1, .ref q_1, .ref q_2, .ref q_3, .int x_2, .ref q_4, .ref q_5, .ref q_6, .ref q_7, .ref q_8, .int x_3, .int 0, .int x_4, .int x_5, .long g_6, .int 0, .int 1, .int x_8, .ref q_9, .int x_9, .ref q_10, .ref q_11, .int x_10, .ref q_12, .ref q_13, .int x_11, .int x_12, .ref q_14, .ref q_15, .ref q_16, .ref q_17, .int x_13, .long g_14, .long g_15, .int x_16, .int x_17, .int x_18, .int x_19, .ref q_18, .ref q_19, .int x_20, .int x_21, .int x_22, .int x_23, .ref q_20, .ref q_21, .int x_24, .int x_25, .ref q_22, .ref q_23, .ref q_24, .ref q_25, .int x_26, .int x_27, .int x_28]))] H := hP
  have hD : va_D A [(q_0, .inr (12, [.int x_0, .int x_1, .ref q_1, .ref q_2, .ref q_3, .int x_2, .ref q_4, .ref q_5, .ref q_6, .ref q_7, .ref q_8, .int x_3, .int 0, .int x_4, .int x_5, .long g_6, .int 0, .int 1, .int x_8, .ref q_9, .int x_9, .ref q_10, .ref q_11, .int x_10, .ref q_12, .ref q_13, .int x_11, .int x_12, .ref q_14, .ref q_15, .ref q_16, .ref q_17, .int x_13, .long g_14, .long g_15, .int x_16, .int x_17, .int x_18, .int x_19, .ref q_18, .ref q_19, .int x_20, .int x_21, .int x_22, .int x_23, .ref q_20, .ref q_21, .int x_24, .int x_25, .ref q_22, .ref q_23, .ref q_24, .ref q_25, .int x_26, .int x_27, .int x_28]))] := hD
  refine lv_aload_n hx hb dX12_must_24 rfl (lv_at hl 0 rfl) ?_
  refine va_get (D := D) (ci := 12) (v := .int 1) (C := RX12) (T := TX12) (N := 56) hx hb hts inX12 hown hK hP 0 rfl rfl 17 (by decide) (hts _ kF_X12_202) (fun _ h9 => h9) rfl dX12_must_25 ?_
  refine lv_if_ne (tgt := 35) hx hb dX12_must_28 (by decide) (fun _ => ?_) (fun c3 => absurd c3 (by decide))
  exact z_vret C0 hr hlk hK hP hD hS (0, fun _ => 0) rfl [0] rfl rfl rfl dX12_must_35

set_option maxHeartbeats 4000000 in
set_option maxRecDepth 100000 in
theorem c_X12_readClause_1 (l : Launch) (D : va_G) (k : Nat → ClassId) (q_0 : Nat) (q_1 : Nat) (q_2 : Nat) (q_3 : Nat) (q_4 : Nat) (q_5 : Nat) (q_6 : Nat) (q_7 : Nat) (q_8 : Nat) (q_9 : Nat) (q_10 : Nat) (q_11 : Nat) (q_12 : Nat) (q_13 : Nat) (q_14 : Nat) (q_15 : Nat) (q_16 : Nat) (q_17 : Nat) (q_18 : Nat) (q_19 : Nat) (q_20 : Nat) (q_21 : Nat) (q_22 : Nat) (q_23 : Nat) (q_24 : Nat) (q_25 : Nat) (x_0 : Int32) (x_1 : Int32) (x_2 : Int32) (x_3 : Int32) (x_4 : Int32) (g_5 : Int64) (x_6 : Int32) (x_7 : Int32) (x_8 : Int32) (x_9 : Int32) (x_10 : Int32) (x_11 : Int32) (x_12 : Int32) (g_13 : Int64) (g_14 : Int64) (x_15 : Int32) (x_16 : Int32) (x_17 : Int32) (x_18 : Int32) (x_19 : Int32) (x_20 : Int32) (x_21 : Int32) (x_22 : Int32) (x_23 : Int32) (x_24 : Int32) (x_25 : Int32) (x_26 : Int32) (x_27 : Int32) : zMv l yX12_readClause cX12_readClause 4 none ({ frames := 2, cells := 0, slots := 0, locals := 42 }) D k [.ref q_0] [(q_0, .inr (12, [.int x_0, .int x_1, .ref q_1, .ref q_2, .ref q_3, .int x_2, .ref q_4, .ref q_5, .ref q_6, .ref q_7, .ref q_8, .int x_3, .int 0, .int x_4, .int 0, .long g_5, .int x_6, .int 0, .int x_7, .ref q_9, .int x_8, .ref q_10, .ref q_11, .int x_9, .ref q_12, .ref q_13, .int x_10, .int x_11, .ref q_14, .ref q_15, .ref q_16, .ref q_17, .int x_12, .long g_13, .long g_14, .int x_15, .int x_16, .int x_17, .int x_18, .ref q_18, .ref q_19, .int x_19, .int x_20, .int x_21, .int x_22, .ref q_20, .ref q_21, .int x_23, .int x_24, .ref q_22, .ref q_23, .ref q_24, .ref q_25, .int x_25, .int x_26, .int x_27]))] (fun u => u.1 = 0) (fun u => [(q_0, .inr (12, [.int x_0, .int x_1, .ref q_1, .ref q_2, .ref q_3, .int x_2, .ref q_4, .ref q_5, .ref q_6, .ref q_7, .ref q_8, .int x_3, .int 0, .int x_4, .int 0, .long g_5, .int 0, .int 1, .int x_7, .ref q_9, .int x_8, .ref q_10, .ref q_11, .int x_9, .ref q_12, .ref q_13, .int x_10, .int x_11, .ref q_14, .ref q_15, .ref q_16, .ref q_17, .int x_12, .long g_13, .long g_14, .int x_15, .int x_16, .int x_17, .int x_18, .ref q_18, .ref q_19, .int x_19, .int x_20, .int x_21, .int x_22, .ref q_20, .ref q_21, .int x_23, .int x_24, .ref q_22, .ref q_23, .ref q_24, .ref q_25, .int x_25, .int x_26, .int x_27]))]) := by
  refine zMv_of (own := RX12) (by decide +kernel) rfl (Nat.le_of_ble_eq_true rfl) ?_
  intro p e s m args below meth c A ls C0 hr hlk hin hP hD hS hA hK hN hl
  have hx := C0.1
  have hb := C0.2.1
  have hml := C0.2.2.1
  have hown := C0.2.2.2.1
  have hts := C0.2.2.2.2
  have hl : lv_has ls 4 [(0, .ref q_0)] := hl
  have hP : va_P D vwCl [(q_0, .inr (12, [.int x_0, .int x_1, .ref q_1, .ref q_2, .ref q_3, .int x_2, .ref q_4, .ref q_5, .ref q_6, .ref q_7, .ref q_8, .int x_3, .int 0, .int x_4, .int 0, .long g_5, .int x_6, .int 0, .int x_7, .ref q_9, .int x_8, .ref q_10, .ref q_11, .int x_9, .ref q_12, .ref q_13, .int x_10, .int x_11, .ref q_14, .ref q_15, .ref q_16, .ref q_17, .int x_12, .long g_13, .long g_14, .int x_15, .int x_16, .int x_17, .int x_18, .ref q_18, .ref q_19, .int x_19, .int x_20, .int x_21, .int x_22, .ref q_20, .ref q_21, .int x_23, .int x_24, .ref q_22, .ref q_23, .ref q_24, .ref q_25, .int x_25, .int x_26, .int x_27]))] s.heap := hP
  refine lv_aload_n hx hb dX12_readClause_0 rfl (lv_at hl 0 rfl) ?_
  refine z_bi (wr := []) (z_runV (C := RX12) (As := []) (rest := []) C0 (c_X12_headAt_1 l D k q_0 q_1 q_2 q_3 q_4 q_5 q_6 q_7 q_8 q_9 q_10 q_11 q_12 q_13 q_14 q_15 q_16 q_17 q_18 q_19 q_20 q_21 q_22 q_23 q_24 q_25 x_0 x_1 x_2 x_3 0 x_4 g_5 x_6 0 x_7 x_8 x_9 x_10 x_11 x_12 g_13 g_14 x_15 x_16 x_17 x_18 x_19 x_20 x_21 x_22 x_23 x_24 x_25 x_26 x_27 _) okV_X12_headAt kM_X12_364 rfl (z_pV (q0 := 0) hK hN hP hD [0] rfl rfl rfl rfl rfl) rfl hl.1 rfl (Nat.le_of_ble_eq_true rfl) dX12_readClause_1 rfl) hP hD hS hA [0] [] rfl rfl rfl rfl (fun r1 u1 H locs hw1 hP hD hS => ?_)
  obtain ⟨i1, a1⟩ := u1
  dsimp only at hw1
  obtain ⟨rfl, rfl⟩ := hw1
  have hP : va_P D vwCl [(q_0, .inr (12, [.int x_0, .int x_1, .ref q_1, .ref q_2, .ref q_3, .int x_2, .ref q_4, .ref q_5, .ref q_6, .ref q_7, .ref q_8, .int x_3, .int 0, .int x_4, .int 0, .long g_5, .int x_6, .int 0, .int x_7, .ref q_9, .int x_8, .ref q_10, .ref q_11, .int x_9, .ref q_12, .ref q_13, .int x_10, .int x_11, .ref q_14, .ref q_15, .ref q_16, .ref q_17, .int x_12, .long g_13, .long g_14, .int x_15, .int x_16, .int x_17, .int x_18, .ref q_18, .ref q_19, .int x_19, .int x_20, .int x_21, .int x_22, .ref q_20, .ref q_21, .int x_23, .int x_24, .ref q_22, .ref q_23, .ref q_24, .ref q_25, .int x_25, .int x_26, .int x_27]))] H := hP
  have hD : va_D A [(q_0, .inr (12, [.int x_0, .int x_1, .ref q_1, .ref q_2, .ref q_3, .int x_2, .ref q_4, .ref q_5, .ref q_6, .ref q_7, .ref q_8, .int x_3, .int 0, .int x_4, .int 0, .long g_5, .int x_6, .int 0, .int x_7, .ref q_9, .int x_8, .ref q_10, .ref q_11, .int x_9, .ref q_12, .ref q_13, .int x_10, .int x_11, .ref q_14, .ref q_15, .ref q_16, .ref q_17, .int x_12, .long g_13, .long g_14, .int x_15, .int x_16, .int x_17, .int x_18, .ref q_18, .ref q_19, .int x_19, .int x_20, .int x_21, .int x_22, .ref q_20, .ref q_21, .int x_23, .int x_24, .ref q_22, .ref q_23, .ref q_24, .ref q_25, .int x_25, .int x_26, .int x_27]))] := hD
  refine lv_istore_n (lv' := [(1, .int (-1)), (0, .ref q_0)]) hx hb dX12_readClause_4 rfl hl (by decide) rfl (fun ls hl => ?_)
  refine lv_aload_n hx hb dX12_readClause_5 rfl (lv_at hl 1 rfl) ?_
  refine lv_iload_n hx hb dX12_readClause_6 rfl (lv_at hl 0 rfl) ?_
  refine lv_iconst (v := (-1)) hx hb dX12_readClause_7 (by decide) ?_
  refine lv_icmp_eq (tgt := 24) hx hb dX12_readClause_8 (by decide) (fun _ => ?_) (fun c2 => absurd (by decide) c2)
  refine lv_iconst (v := 0) hx hb dX12_readClause_24 (by decide) ?_
  refine z_bv (wr := []) (z_runV (C := RX12) (As := [.int 0]) (rest := []) C0 (c_X12_must_1 l D k q_0 q_1 q_2 q_3 q_4 q_5 q_6 q_7 q_8 q_9 q_10 q_11 q_12 q_13 q_14 q_15 q_16 q_17 q_18 q_19 q_20 q_21 q_22 q_23 q_24 q_25 x_0 x_1 x_2 x_3 x_4 0 g_5 x_6 x_7 x_8 x_9 x_10 x_11 x_12 g_13 g_14 x_15 x_16 x_17 x_18 x_19 x_20 x_21 x_22 x_23 x_24 x_25 x_26 x_27 _) okV_X12_must kM_X12_235 rfl (z_pV (q0 := 0) hK hN hP hD [0] rfl rfl rfl rfl rfl) rfl hl.1 rfl (Nat.le_of_ble_eq_true rfl) dX12_readClause_25 rfl) hP hD hS hA [0] [] rfl rfl rfl rfl (fun u3 H locs hw3 hP hD hS => ?_)
  obtain ⟨i3, a3⟩ := u3
  dsimp only at hw3
  obtain rfl := hw3
  have hP : va_P D vwCl [(q_0, .inr (12, [.int x_0, .int x_1, .ref q_1, .ref q_2, .ref q_3, .int x_2, .ref q_4, .ref q_5, .ref q_6, .ref q_7, .ref q_8, .int x_3, .int 0, .int x_4, .int 0, .long g_5, .int 0, .int 1, .int x_7, .ref q_9, .int x_8, .ref q_10, .ref q_11, .int x_9, .ref q_12, .ref q_13, .int x_10, .int x_11, .ref q_14, .ref q_15, .ref q_16, .ref q_17, .int x_12, .long g_13, .long g_14, .int x_15, .int x_16, .int x_17, .int x_18, .ref q_18, .ref q_19, .int x_19, .int x_20, .int x_21, .int x_22, .ref q_20, .ref q_21, .int x_23, .int x_24, .ref q_22, .ref q_23, .ref q_24, .ref q_25, .int x_25, .int x_26, .int x_27]))] H := hP
  have hD : va_D A [(q_0, .inr (12, [.int x_0, .int x_1, .ref q_1, .ref q_2, .ref q_3, .int x_2, .ref q_4, .ref q_5, .ref q_6, .ref q_7, .ref q_8, .int x_3, .int 0, .int x_4, .int 0, .long g_5, .int 0, .int 1, .int x_7, .ref q_9, .int x_8, .ref q_10, .ref q_11, .int x_9, .ref q_12, .ref q_13, .int x_10, .int x_11, .ref q_14, .ref q_15, .ref q_16, .ref q_17, .int x_12, .long g_13, .long g_14, .int x_15, .int x_16, .int x_17, .int x_18, .ref q_18, .ref q_19, .int x_19, .int x_20, .int x_21, .int x_22, .ref q_20, .ref q_21, .int x_23, .int x_24, .ref q_22, .ref q_23, .ref q_24, .ref q_25, .int x_25, .int x_26, .int x_27]))] := hD
  refine lv_aload_n hx hb dX12_readClause_28 rfl (lv_at hl 1 rfl) ?_
  refine va_get (D := D) (ci := 12) (v := .int 1) (C := RX12) (T := TX12) (N := 56) hx hb hts inX12 hown hK hP 0 rfl rfl 17 (by decide) (hts _ kF_X12_202) (fun _ h9 => h9) rfl dX12_readClause_29 ?_
  refine lv_if_eq (tgt := 36) hx hb dX12_readClause_32 (by decide) (fun c4 => absurd c4 (by decide)) (fun _ => ?_)
  exact z_vret C0 hr hlk hK hP hD hS (0, fun _ => 0) rfl [0] rfl rfl rfl dX12_readClause_35

set_option maxHeartbeats 4000000 in
set_option maxRecDepth 100000 in
theorem c_X12_readText_1 (l : Launch) (D : va_G) (k : Nat → ClassId) (q_0 : Nat) (q_1 : Nat) (q_2 : Nat) (q_3 : Nat) (q_4 : Nat) (q_5 : Nat) (q_6 : Nat) (q_7 : Nat) (q_8 : Nat) (q_9 : Nat) (q_10 : Nat) (q_11 : Nat) (q_12 : Nat) (q_13 : Nat) (q_14 : Nat) (q_15 : Nat) (q_16 : Nat) (q_17 : Nat) (q_18 : Nat) (q_19 : Nat) (q_20 : Nat) (q_21 : Nat) (q_22 : Nat) (q_23 : Nat) (q_24 : Nat) (q_25 : Nat) (x_0 : Int32) (x_1 : Int32) (x_2 : Int32) (x_3 : Int32) (g_4 : Int64) (x_5 : Int32) (x_6 : Int32) (x_7 : Int32) (x_8 : Int32) (x_9 : Int32) (x_10 : Int32) (x_11 : Int32) (g_12 : Int64) (g_13 : Int64) (x_14 : Int32) (x_15 : Int32) (x_16 : Int32) (x_17 : Int32) (x_18 : Int32) (x_19 : Int32) (x_20 : Int32) (x_21 : Int32) (x_22 : Int32) (x_23 : Int32) (x_24 : Int32) (x_25 : Int32) (x_26 : Int32) : zMi l yX12_readText cX12_readText 4 (some .boolean) ({ frames := 3, cells := 0, slots := 0, locals := 65 }) D k [.ref q_0, .int x_0] [(q_0, .inr (12, [.int x_1, .int x_2, .ref q_1, .ref q_2, .ref q_3, .int x_3, .ref q_4, .ref q_5, .ref q_6, .ref q_7, .ref q_8, .int 0, .int 0, .int 0, .int 0, .long g_4, .int x_5, .int 0, .int x_6, .ref q_9, .int x_7, .ref q_10, .ref q_11, .int x_8, .ref q_12, .ref q_13, .int x_9, .int x_10, .ref q_14, .ref q_15, .ref q_16, .ref q_17, .int x_11, .long g_12, .long g_13, .int x_14, .int x_15, .int x_16, .int x_17, .ref q_18, .ref q_19, .int x_18, .int x_19, .int x_20, .int x_21, .ref q_20, .ref q_21, .int x_22, .int x_23, .ref q_22, .ref q_23, .ref q_24, .ref q_25, .int x_24, .int x_25, .int x_26]))] (fun r u => u.1 = 0 ∧ r = 0) (fun u => [(q_0, .inr (12, [.int x_1, .int x_2, .ref q_1, .ref q_2, .ref q_3, .int x_3, .ref q_4, .ref q_5, .ref q_6, .ref q_7, .ref q_8, .int 0, .int 0, .int 0, .int 0, .long 0, .int 0, .int 1, .int 0, .ref q_9, .int 0, .ref q_10, .ref q_11, .int 0, .ref q_12, .ref q_13, .int x_9, .int x_10, .ref q_14, .ref q_15, .ref q_16, .ref q_17, .int x_11, .long g_12, .long g_13, .int x_14, .int x_15, .int x_16, .int x_17, .ref q_18, .ref q_19, .int x_18, .int x_19, .int x_20, .int x_21, .ref q_20, .ref q_21, .int x_22, .int x_23, .ref q_22, .ref q_23, .ref q_24, .ref q_25, .int x_24, .int x_25, .int x_26]))]) := by
  refine zMi_of (own := RX12) (by decide +kernel) rfl (Nat.le_of_ble_eq_true rfl) ?_
  intro p e s m args below meth c A ls C0 hr hlk hin hP hD hS hA hK hN hl
  have hx := C0.1
  have hb := C0.2.1
  have hml := C0.2.2.1
  have hown := C0.2.2.2.1
  have hts := C0.2.2.2.2
  have hl : lv_has ls 4 [(0, .ref q_0), (1, .int x_0)] := hl
  have hP : va_P D vwCl [(q_0, .inr (12, [.int x_1, .int x_2, .ref q_1, .ref q_2, .ref q_3, .int x_3, .ref q_4, .ref q_5, .ref q_6, .ref q_7, .ref q_8, .int 0, .int 0, .int 0, .int 0, .long g_4, .int x_5, .int 0, .int x_6, .ref q_9, .int x_7, .ref q_10, .ref q_11, .int x_8, .ref q_12, .ref q_13, .int x_9, .int x_10, .ref q_14, .ref q_15, .ref q_16, .ref q_17, .int x_11, .long g_12, .long g_13, .int x_14, .int x_15, .int x_16, .int x_17, .ref q_18, .ref q_19, .int x_18, .int x_19, .int x_20, .int x_21, .ref q_20, .ref q_21, .int x_22, .int x_23, .ref q_22, .ref q_23, .ref q_24, .ref q_25, .int x_24, .int x_25, .int x_26]))] s.heap := hP
  refine lv_aload_n hx hb dX12_readText_0 rfl (lv_at hl 0 rfl) ?_
  refine z_bv (wr := []) (z_runV (C := RX12) (As := []) (rest := []) C0 (c_X12_begin_1 l D k q_0 q_1 q_2 q_3 q_4 q_5 q_6 q_7 q_8 q_9 q_10 q_11 q_12 q_13 q_14 q_15 q_16 q_17 q_18 q_19 q_20 q_21 q_22 q_23 q_24 q_25 x_1 x_2 x_3 g_4 x_5 0 x_6 x_7 x_8 x_9 x_10 x_11 g_12 g_13 x_14 x_15 x_16 x_17 x_18 x_19 x_20 x_21 x_22 x_23 x_24 x_25 x_26 _) okV_X12_begin kM_X12_397 rfl (z_pV (q0 := 0) hK hN hP hD [0] rfl rfl rfl rfl rfl) rfl hl.1 rfl (Nat.le_of_ble_eq_true rfl) dX12_readText_1 rfl) hP hD hS hA [0] [] rfl rfl rfl rfl (fun u1 H locs hw1 hP hD hS => ?_)
  obtain ⟨i1, a1⟩ := u1
  dsimp only at hw1
  obtain rfl := hw1
  have hP : va_P D vwCl [(q_0, .inr (12, [.int x_1, .int x_2, .ref q_1, .ref q_2, .ref q_3, .int x_3, .ref q_4, .ref q_5, .ref q_6, .ref q_7, .ref q_8, .int 0, .int 0, .int 0, .int 0, .long 0, .int (-1), .int 0, .int x_6, .ref q_9, .int x_7, .ref q_10, .ref q_11, .int x_8, .ref q_12, .ref q_13, .int x_9, .int x_10, .ref q_14, .ref q_15, .ref q_16, .ref q_17, .int x_11, .long g_12, .long g_13, .int x_14, .int x_15, .int x_16, .int x_17, .ref q_18, .ref q_19, .int x_18, .int x_19, .int x_20, .int x_21, .ref q_20, .ref q_21, .int x_22, .int x_23, .ref q_22, .ref q_23, .ref q_24, .ref q_25, .int x_24, .int x_25, .int x_26]))] H := hP
  have hD : va_D A [(q_0, .inr (12, [.int x_1, .int x_2, .ref q_1, .ref q_2, .ref q_3, .int x_3, .ref q_4, .ref q_5, .ref q_6, .ref q_7, .ref q_8, .int 0, .int 0, .int 0, .int 0, .long 0, .int (-1), .int 0, .int x_6, .ref q_9, .int x_7, .ref q_10, .ref q_11, .int x_8, .ref q_12, .ref q_13, .int x_9, .int x_10, .ref q_14, .ref q_15, .ref q_16, .ref q_17, .int x_11, .long g_12, .long g_13, .int x_14, .int x_15, .int x_16, .int x_17, .ref q_18, .ref q_19, .int x_18, .int x_19, .int x_20, .int x_21, .ref q_20, .ref q_21, .int x_22, .int x_23, .ref q_22, .ref q_23, .ref q_24, .ref q_25, .int x_24, .int x_25, .int x_26]))] := hD
  refine lv_aload_n hx hb dX12_readText_4 rfl (lv_at hl 0 rfl) ?_
  refine lv_iconst (v := 0) hx hb dX12_readText_5 (by decide) ?_
  refine va_put (D := D) (ci := 12) (v := .int 0) (ty := .int) (C := RX12) (T := TX12) (N := 56) hx hb hts inX12 tyX12 tyX12_ok nmX12 hown hK hP hD hS 0 rfl rfl 18 (by decide) (hts _ kF_X12_367) (fun _ h9 => h9) rfl (by decide +kernel) rfl rfl (Nat.le_of_ble_eq_true rfl) dX12_readText_6 (fun H locs hP hD hS => ?_)
  have hP : va_P D vwCl [(q_0, .inr (12, [.int x_1, .int x_2, .ref q_1, .ref q_2, .ref q_3, .int x_3, .ref q_4, .ref q_5, .ref q_6, .ref q_7, .ref q_8, .int 0, .int 0, .int 0, .int 0, .long 0, .int (-1), .int 0, .int 0, .ref q_9, .int x_7, .ref q_10, .ref q_11, .int x_8, .ref q_12, .ref q_13, .int x_9, .int x_10, .ref q_14, .ref q_15, .ref q_16, .ref q_17, .int x_11, .long g_12, .long g_13, .int x_14, .int x_15, .int x_16, .int x_17, .ref q_18, .ref q_19, .int x_18, .int x_19, .int x_20, .int x_21, .ref q_20, .ref q_21, .int x_22, .int x_23, .ref q_22, .ref q_23, .ref q_24, .ref q_25, .int x_24, .int x_25, .int x_26]))] H := hP
  have hD : va_D A [(q_0, .inr (12, [.int x_1, .int x_2, .ref q_1, .ref q_2, .ref q_3, .int x_3, .ref q_4, .ref q_5, .ref q_6, .ref q_7, .ref q_8, .int 0, .int 0, .int 0, .int 0, .long 0, .int (-1), .int 0, .int 0, .ref q_9, .int x_7, .ref q_10, .ref q_11, .int x_8, .ref q_12, .ref q_13, .int x_9, .int x_10, .ref q_14, .ref q_15, .ref q_16, .ref q_17, .int x_11, .long g_12, .long g_13, .int x_14, .int x_15, .int x_16, .int x_17, .ref q_18, .ref q_19, .int x_18, .int x_19, .int x_20, .int x_21, .ref q_20, .ref q_21, .int x_22, .int x_23, .ref q_22, .ref q_23, .ref q_24, .ref q_25, .int x_24, .int x_25, .int x_26]))] := hD
  refine lv_aload_n hx hb dX12_readText_9 rfl (lv_at hl 0 rfl) ?_
  refine lv_iconst (v := 0) hx hb dX12_readText_10 (by decide) ?_
  refine va_put (D := D) (ci := 12) (v := .int 0) (ty := .int) (C := RX12) (T := TX12) (N := 56) hx hb hts inX12 tyX12 tyX12_ok nmX12 hown hK hP hD hS 0 rfl rfl 20 (by decide) (hts _ kF_X12_239) (fun _ h9 => h9) rfl (by decide +kernel) rfl rfl (Nat.le_of_ble_eq_true rfl) dX12_readText_11 (fun H locs hP hD hS => ?_)
  have hP : va_P D vwCl [(q_0, .inr (12, [.int x_1, .int x_2, .ref q_1, .ref q_2, .ref q_3, .int x_3, .ref q_4, .ref q_5, .ref q_6, .ref q_7, .ref q_8, .int 0, .int 0, .int 0, .int 0, .long 0, .int (-1), .int 0, .int 0, .ref q_9, .int 0, .ref q_10, .ref q_11, .int x_8, .ref q_12, .ref q_13, .int x_9, .int x_10, .ref q_14, .ref q_15, .ref q_16, .ref q_17, .int x_11, .long g_12, .long g_13, .int x_14, .int x_15, .int x_16, .int x_17, .ref q_18, .ref q_19, .int x_18, .int x_19, .int x_20, .int x_21, .ref q_20, .ref q_21, .int x_22, .int x_23, .ref q_22, .ref q_23, .ref q_24, .ref q_25, .int x_24, .int x_25, .int x_26]))] H := hP
  have hD : va_D A [(q_0, .inr (12, [.int x_1, .int x_2, .ref q_1, .ref q_2, .ref q_3, .int x_3, .ref q_4, .ref q_5, .ref q_6, .ref q_7, .ref q_8, .int 0, .int 0, .int 0, .int 0, .long 0, .int (-1), .int 0, .int 0, .ref q_9, .int 0, .ref q_10, .ref q_11, .int x_8, .ref q_12, .ref q_13, .int x_9, .int x_10, .ref q_14, .ref q_15, .ref q_16, .ref q_17, .int x_11, .long g_12, .long g_13, .int x_14, .int x_15, .int x_16, .int x_17, .ref q_18, .ref q_19, .int x_18, .int x_19, .int x_20, .int x_21, .ref q_20, .ref q_21, .int x_22, .int x_23, .ref q_22, .ref q_23, .ref q_24, .ref q_25, .int x_24, .int x_25, .int x_26]))] := hD
  refine lv_aload_n hx hb dX12_readText_14 rfl (lv_at hl 0 rfl) ?_
  refine lv_iconst (v := 0) hx hb dX12_readText_15 (by decide) ?_
  refine va_put (D := D) (ci := 12) (v := .int 0) (ty := .int) (C := RX12) (T := TX12) (N := 56) hx hb hts inX12 tyX12 tyX12_ok nmX12 hown hK hP hD hS 0 rfl rfl 23 (by decide) (hts _ kF_X12_293) (fun _ h9 => h9) rfl (by decide +kernel) rfl rfl (Nat.le_of_ble_eq_true rfl) dX12_readText_16 (fun H locs hP hD hS => ?_)
  have hP : va_P D vwCl [(q_0, .inr (12, [.int x_1, .int x_2, .ref q_1, .ref q_2, .ref q_3, .int x_3, .ref q_4, .ref q_5, .ref q_6, .ref q_7, .ref q_8, .int 0, .int 0, .int 0, .int 0, .long 0, .int (-1), .int 0, .int 0, .ref q_9, .int 0, .ref q_10, .ref q_11, .int 0, .ref q_12, .ref q_13, .int x_9, .int x_10, .ref q_14, .ref q_15, .ref q_16, .ref q_17, .int x_11, .long g_12, .long g_13, .int x_14, .int x_15, .int x_16, .int x_17, .ref q_18, .ref q_19, .int x_18, .int x_19, .int x_20, .int x_21, .ref q_20, .ref q_21, .int x_22, .int x_23, .ref q_22, .ref q_23, .ref q_24, .ref q_25, .int x_24, .int x_25, .int x_26]))] H := hP
  have hD : va_D A [(q_0, .inr (12, [.int x_1, .int x_2, .ref q_1, .ref q_2, .ref q_3, .int x_3, .ref q_4, .ref q_5, .ref q_6, .ref q_7, .ref q_8, .int 0, .int 0, .int 0, .int 0, .long 0, .int (-1), .int 0, .int 0, .ref q_9, .int 0, .ref q_10, .ref q_11, .int 0, .ref q_12, .ref q_13, .int x_9, .int x_10, .ref q_14, .ref q_15, .ref q_16, .ref q_17, .int x_11, .long g_12, .long g_13, .int x_14, .int x_15, .int x_16, .int x_17, .ref q_18, .ref q_19, .int x_18, .int x_19, .int x_20, .int x_21, .ref q_20, .ref q_21, .int x_22, .int x_23, .ref q_22, .ref q_23, .ref q_24, .ref q_25, .int x_24, .int x_25, .int x_26]))] := hD
  refine lv_aload_n hx hb dX12_readText_19 rfl (lv_at hl 0 rfl) ?_
  refine z_bv (wr := []) (z_runV (C := RX12) (As := []) (rest := []) C0 (c_X12_readClause_1 l D k q_0 q_1 q_2 q_3 q_4 q_5 q_6 q_7 q_8 q_9 q_10 q_11 q_12 q_13 q_14 q_15 q_16 q_17 q_18 q_19 q_20 q_21 q_22 q_23 q_24 q_25 x_1 x_2 x_3 0 0 0 (-1) 0 0 0 x_9 x_10 x_11 g_12 g_13 x_14 x_15 x_16 x_17 x_18 x_19 x_20 x_21 x_22 x_23 x_24 x_25 x_26 _) okV_X12_readClause kM_X12_400 rfl (z_pV (q0 := 0) hK hN hP hD [0] rfl rfl rfl rfl rfl) rfl hl.1 rfl (Nat.le_of_ble_eq_true rfl) dX12_readText_20 rfl) hP hD hS hA [0] [] rfl rfl rfl rfl (fun u2 H locs hw2 hP hD hS => ?_)
  obtain ⟨i2, a2⟩ := u2
  dsimp only at hw2
  obtain rfl := hw2
  have hP : va_P D vwCl [(q_0, .inr (12, [.int x_1, .int x_2, .ref q_1, .ref q_2, .ref q_3, .int x_3, .ref q_4, .ref q_5, .ref q_6, .ref q_7, .ref q_8, .int 0, .int 0, .int 0, .int 0, .long 0, .int 0, .int 1, .int 0, .ref q_9, .int 0, .ref q_10, .ref q_11, .int 0, .ref q_12, .ref q_13, .int x_9, .int x_10, .ref q_14, .ref q_15, .ref q_16, .ref q_17, .int x_11, .long g_12, .long g_13, .int x_14, .int x_15, .int x_16, .int x_17, .ref q_18, .ref q_19, .int x_18, .int x_19, .int x_20, .int x_21, .ref q_20, .ref q_21, .int x_22, .int x_23, .ref q_22, .ref q_23, .ref q_24, .ref q_25, .int x_24, .int x_25, .int x_26]))] H := hP
  have hD : va_D A [(q_0, .inr (12, [.int x_1, .int x_2, .ref q_1, .ref q_2, .ref q_3, .int x_3, .ref q_4, .ref q_5, .ref q_6, .ref q_7, .ref q_8, .int 0, .int 0, .int 0, .int 0, .long 0, .int 0, .int 1, .int 0, .ref q_9, .int 0, .ref q_10, .ref q_11, .int 0, .ref q_12, .ref q_13, .int x_9, .int x_10, .ref q_14, .ref q_15, .ref q_16, .ref q_17, .int x_11, .long g_12, .long g_13, .int x_14, .int x_15, .int x_16, .int x_17, .ref q_18, .ref q_19, .int x_18, .int x_19, .int x_20, .int x_21, .ref q_20, .ref q_21, .int x_22, .int x_23, .ref q_22, .ref q_23, .ref q_24, .ref q_25, .int x_24, .int x_25, .int x_26]))] := hD
  refine lv_aload_n hx hb dX12_readText_23 rfl (lv_at hl 0 rfl) ?_
  refine va_get (D := D) (ci := 12) (v := .int 1) (C := RX12) (T := TX12) (N := 56) hx hb hts inX12 hown hK hP 0 rfl rfl 17 (by decide) (hts _ kF_X12_202) (fun _ h9 => h9) rfl dX12_readText_24 ?_
  refine lv_if_ne (tgt := 50) hx hb dX12_readText_27 (by decide) (fun _ => ?_) (fun c3 => absurd c3 (by decide))
  refine lv_aload_n hx hb dX12_readText_50 rfl (lv_at hl 0 rfl) ?_
  refine va_get (D := D) (ci := 12) (v := .int 1) (C := RX12) (T := TX12) (N := 56) hx hb hts inX12 hown hK hP 0 rfl rfl 17 (by decide) (hts _ kF_X12_202) (fun _ h9 => h9) rfl dX12_readText_51 ?_
  refine lv_if_ne (tgt := 69) hx hb dX12_readText_54 (by decide) (fun _ => ?_) (fun c4 => absurd c4 (by decide))
  refine lv_aload_n hx hb dX12_readText_69 rfl (lv_at hl 0 rfl) ?_
  refine va_get (D := D) (ci := 12) (v := .int 1) (C := RX12) (T := TX12) (N := 56) hx hb hts inX12 hown hK hP 0 rfl rfl 17 (by decide) (hts _ kF_X12_202) (fun _ h9 => h9) rfl dX12_readText_70 ?_
  refine lv_if_eq (tgt := 78) hx hb dX12_readText_73 (by decide) (fun c5 => absurd c5 (by decide)) (fun _ => ?_)
  refine lv_iconst (v := 0) hx hb dX12_readText_76 (by decide) ?_
  exact z_iret C0 hr hlk rfl hK hP hD hS (0, fun _ => 0) ⟨rfl, rfl⟩ [0] rfl rfl rfl dX12_readText_77

set_option maxHeartbeats 4000000 in
set_option maxRecDepth 100000 in
theorem c_X12_told_6 (l : Launch) (D : va_G) (k : Nat → ClassId) (q_0 : Nat) (q_1 : Nat) (q_2 : Nat) (q_3 : Nat) (q_4 : Nat) (q_5 : Nat) (q_6 : Nat) (q_7 : Nat) (q_8 : Nat) (q_9 : Nat) (q_10 : Nat) (q_11 : Nat) (q_12 : Nat) (q_13 : Nat) (q_14 : Nat) (q_15 : Nat) (q_16 : Nat) (q_17 : Nat) (q_18 : Nat) (q_19 : Nat) (q_20 : Nat) (q_21 : Nat) (q_22 : Nat) (q_23 : Nat) (q_24 : Nat) (q_25 : Nat) (x_0 : Int32) (x_1 : Int32) (x_2 : Int32) (x_3 : Int32) (x_4 : Int32) (x_5 : Int32) (x_6 : Int32) (g_7 : Int64) (x_8 : Int32) (x_9 : Int32) (x_10 : Int32) (x_11 : Int32) (x_12 : Int32) (x_13 : Int32) (x_14 : Int32) (x_15 : Int32) (g_16 : Int64) (g_17 : Int64) (x_18 : Int32) (x_19 : Int32) (x_20 : Int32) (x_21 : Int32) (x_22 : Int32) (x_23 : Int32) (x_24 : Int32) (x_25 : Int32) (x_26 : Int32) (x_27 : Int32) (x_28 : Int32) (x_29 : Int32) (x_30 : Int32) : zMi l yX12_told cX12_told 2 (some .int) ({ frames := 0, cells := 0, slots := 0, locals := 0 }) D k [.ref q_0, .int (-6)] [(q_0, .inr (12, [.int x_0, .int x_1, .ref q_1, .ref q_2, .ref q_3, .int x_2, .ref q_4, .ref q_5, .ref q_6, .ref q_7, .ref q_8, .int x_3, .int x_4, .int x_5, .int x_6, .long g_7, .int x_8, .int x_9, .int x_10, .ref q_9, .int x_11, .ref q_10, .ref q_11, .int x_12, .ref q_12, .ref q_13, .int x_13, .int x_14, .ref q_14, .ref q_15, .ref q_16, .ref q_17, .int x_15, .long g_16, .long g_17, .int x_18, .int x_19, .int x_20, .int x_21, .ref q_18, .ref q_19, .int x_22, .int x_23, .int x_24, .int x_25, .ref q_20, .ref q_21, .int x_26, .int x_27, .ref q_22, .ref q_23, .ref q_24, .ref q_25, .int x_28, .int x_29, .int x_30]))] (fun r u => u.1 = 0 ∧ r = (-6)) (fun u => [(q_0, .inr (12, [.int x_0, .int (-6), .ref q_1, .ref q_2, .ref q_3, .int x_2, .ref q_4, .ref q_5, .ref q_6, .ref q_7, .ref q_8, .int x_3, .int x_4, .int x_5, .int x_6, .long g_7, .int x_8, .int x_9, .int x_10, .ref q_9, .int x_11, .ref q_10, .ref q_11, .int x_12, .ref q_12, .ref q_13, .int x_13, .int x_14, .ref q_14, .ref q_15, .ref q_16, .ref q_17, .int x_15, .long g_16, .long g_17, .int x_18, .int x_19, .int x_20, .int x_21, .ref q_18, .ref q_19, .int x_22, .int x_23, .int x_24, .int x_25, .ref q_20, .ref q_21, .int x_26, .int x_27, .ref q_22, .ref q_23, .ref q_24, .ref q_25, .int x_28, .int x_29, .int x_30]))]) := by
  refine zMi_of (own := RX12) (by decide +kernel) rfl (Nat.le_of_ble_eq_true rfl) ?_
  intro p e s m args below meth c A ls C0 hr hlk hin hP hD hS hA hK hN hl
  have hx := C0.1
  have hb := C0.2.1
  have hml := C0.2.2.1
  have hown := C0.2.2.2.1
  have hts := C0.2.2.2.2
  have hl : lv_has ls 2 [(0, .ref q_0), (1, .int (-6))] := hl
  have hP : va_P D vwCl [(q_0, .inr (12, [.int x_0, .int x_1, .ref q_1, .ref q_2, .ref q_3, .int x_2, .ref q_4, .ref q_5, .ref q_6, .ref q_7, .ref q_8, .int x_3, .int x_4, .int x_5, .int x_6, .long g_7, .int x_8, .int x_9, .int x_10, .ref q_9, .int x_11, .ref q_10, .ref q_11, .int x_12, .ref q_12, .ref q_13, .int x_13, .int x_14, .ref q_14, .ref q_15, .ref q_16, .ref q_17, .int x_15, .long g_16, .long g_17, .int x_18, .int x_19, .int x_20, .int x_21, .ref q_18, .ref q_19, .int x_22, .int x_23, .int x_24, .int x_25, .ref q_20, .ref q_21, .int x_26, .int x_27, .ref q_22, .ref q_23, .ref q_24, .ref q_25, .int x_28, .int x_29, .int x_30]))] s.heap := hP
  refine lv_aload_n hx hb dX12_told_0 rfl (lv_at hl 0 rfl) ?_
  refine lv_iload_n hx hb dX12_told_1 rfl (lv_at hl 1 rfl) ?_
  refine lv_if_ge (tgt := 9) hx hb dX12_told_2 (by decide) (fun c1 => absurd c1 (by decide)) (fun _ => ?_)
  refine lv_iload_n hx hb dX12_told_5 rfl (lv_at hl 1 rfl) ?_
  refine lv_goto (tgt := 10) hx hb dX12_told_6 (by decide) ?_
  refine va_put (D := D) (ci := 12) (v := .int (-6)) (ty := .int) (C := RX12) (T := TX12) (N := 56) hx hb hts inX12 tyX12 tyX12_ok nmX12 hown hK hP hD hS 0 rfl rfl 1 (by decide) (hts _ kF_X12_95) (fun _ h9 => h9) rfl (by decide +kernel) rfl rfl (Nat.le_of_ble_eq_true rfl) dX12_told_10 (fun H locs hP hD hS => ?_)
  have hP : va_P D vwCl [(q_0, .inr (12, [.int x_0, .int (-6), .ref q_1, .ref q_2, .ref q_3, .int x_2, .ref q_4, .ref q_5, .ref q_6, .ref q_7, .ref q_8, .int x_3, .int x_4, .int x_5, .int x_6, .long g_7, .int x_8, .int x_9, .int x_10, .ref q_9, .int x_11, .ref q_10, .ref q_11, .int x_12, .ref q_12, .ref q_13, .int x_13, .int x_14, .ref q_14, .ref q_15, .ref q_16, .ref q_17, .int x_15, .long g_16, .long g_17, .int x_18, .int x_19, .int x_20, .int x_21, .ref q_18, .ref q_19, .int x_22, .int x_23, .int x_24, .int x_25, .ref q_20, .ref q_21, .int x_26, .int x_27, .ref q_22, .ref q_23, .ref q_24, .ref q_25, .int x_28, .int x_29, .int x_30]))] H := hP
  have hD : va_D A [(q_0, .inr (12, [.int x_0, .int (-6), .ref q_1, .ref q_2, .ref q_3, .int x_2, .ref q_4, .ref q_5, .ref q_6, .ref q_7, .ref q_8, .int x_3, .int x_4, .int x_5, .int x_6, .long g_7, .int x_8, .int x_9, .int x_10, .ref q_9, .int x_11, .ref q_10, .ref q_11, .int x_12, .ref q_12, .ref q_13, .int x_13, .int x_14, .ref q_14, .ref q_15, .ref q_16, .ref q_17, .int x_15, .long g_16, .long g_17, .int x_18, .int x_19, .int x_20, .int x_21, .ref q_18, .ref q_19, .int x_22, .int x_23, .int x_24, .int x_25, .ref q_20, .ref q_21, .int x_26, .int x_27, .ref q_22, .ref q_23, .ref q_24, .ref q_25, .int x_28, .int x_29, .int x_30]))] := hD
  refine lv_iload_n hx hb dX12_told_13 rfl (lv_at hl 1 rfl) ?_
  exact z_iret C0 hr hlk rfl hK hP hD hS (0, fun _ => 0) ⟨rfl, rfl⟩ [0] rfl rfl rfl dX12_told_14

set_option maxHeartbeats 4000000 in
set_option maxRecDepth 100000 in
theorem c_X12_act_1 (l : Launch) (D : va_G) (k : Nat → ClassId) (q_0 : Nat) (q_1 : Nat) (q_2 : Nat) (q_3 : Nat) (q_4 : Nat) (q_5 : Nat) (q_6 : Nat) (q_7 : Nat) (q_8 : Nat) (q_9 : Nat) (q_10 : Nat) (q_11 : Nat) (q_12 : Nat) (q_13 : Nat) (q_14 : Nat) (q_15 : Nat) (q_16 : Nat) (q_17 : Nat) (q_18 : Nat) (q_19 : Nat) (q_20 : Nat) (q_21 : Nat) (q_22 : Nat) (q_23 : Nat) (q_24 : Nat) (q_25 : Nat) (x_0 : Int32) (x_1 : Int32) (x_2 : Int32) (x_3 : Int32) (g_4 : Int64) (x_5 : Int32) (x_6 : Int32) (x_7 : Int32) (x_8 : Int32) (x_9 : Int32) (x_10 : Int32) (x_11 : Int32) (g_12 : Int64) (g_13 : Int64) (x_14 : Int32) (x_15 : Int32) (x_16 : Int32) (x_17 : Int32) (x_18 : Int32) (x_19 : Int32) (x_20 : Int32) (x_21 : Int32) (x_22 : Int32) (x_23 : Int32) (x_24 : Int32) (x_25 : Int32) (x_26 : Int32) : zMi l yX12_act cX12_act 3 (some .int) ({ frames := 4, cells := 0, slots := 0, locals := 88 }) D k [.ref q_0, .int x_0] [(q_0, .inr (12, [.int x_1, .int x_2, .ref q_1, .ref q_2, .ref q_3, .int x_3, .ref q_4, .ref q_5, .ref q_6, .ref q_7, .ref q_8, .int 0, .int 0, .int 0, .int 0, .long g_4, .int x_5, .int 0, .int x_6, .ref q_9, .int x_7, .ref q_10, .ref q_11, .int x_8, .ref q_12, .ref q_13, .int x_9, .int x_10, .ref q_14, .ref q_15, .ref q_16, .ref q_17, .int x_11, .long g_12, .long g_13, .int x_14, .int x_15, .int x_16, .int x_17, .ref q_18, .ref q_19, .int x_18, .int x_19, .int x_20, .int x_21, .ref q_20, .ref q_21, .int x_22, .int x_23, .ref q_22, .ref q_23, .ref q_24, .ref q_25, .int x_24, .int x_25, .int x_26])), (q_1, .inl (k 0, 27101, .inl (fun _ => 0)))] (fun r u => (u.1 = 0 ∧ r = (-1) ∧ (((((Int32.toInt64 x_0) < 0) ∨ (¬ (Int32.toInt64 x_0) < 0 ∧ (399 : Int64) < (Int32.toInt64 x_0))) ∧ (((Int32.toInt64 x_0) < 0) ∨ (¬ (Int32.toInt64 x_0) < 0 ∧ (399 : Int64) < (Int32.toInt64 x_0)))))) ∨ (u.1 = 1 ∧ r = (-5) ∧ (((((Int32.toInt64 x_0) < 0) ∨ (¬ (Int32.toInt64 x_0) < 0 ∧ (399 : Int64) < (Int32.toInt64 x_0))) ∧ ((¬ (Int32.toInt64 x_0) < 0 ∧ ¬ (399 : Int64) < (Int32.toInt64 x_0)))))) ∨ (u.1 = 2 ∧ r = (-6) ∧ ((((¬ (Int32.toInt64 x_0) < 0 ∧ ¬ (399 : Int64) < (Int32.toInt64 x_0))))))) (fun u => []) := by
  refine zMi_of (own := RX12) (by decide +kernel) rfl (Nat.le_of_ble_eq_true rfl) ?_
  intro p e s m args below meth c A ls C0 hr hlk hin hP hD hS hA hK hN hl
  have hx := C0.1
  have hb := C0.2.1
  have hml := C0.2.2.1
  have hown := C0.2.2.2.1
  have hts := C0.2.2.2.2
  have hl : lv_has ls 3 [(0, .ref q_0), (1, .int x_0)] := hl
  have hP : va_P D vwCl [(q_0, .inr (12, [.int x_1, .int x_2, .ref q_1, .ref q_2, .ref q_3, .int x_3, .ref q_4, .ref q_5, .ref q_6, .ref q_7, .ref q_8, .int 0, .int 0, .int 0, .int 0, .long g_4, .int x_5, .int 0, .int x_6, .ref q_9, .int x_7, .ref q_10, .ref q_11, .int x_8, .ref q_12, .ref q_13, .int x_9, .int x_10, .ref q_14, .ref q_15, .ref q_16, .ref q_17, .int x_11, .long g_12, .long g_13, .int x_14, .int x_15, .int x_16, .int x_17, .ref q_18, .ref q_19, .int x_18, .int x_19, .int x_20, .int x_21, .ref q_20, .ref q_21, .int x_22, .int x_23, .ref q_22, .ref q_23, .ref q_24, .ref q_25, .int x_24, .int x_25, .int x_26])), (q_1, .inl (k 0, 27101, .inl (fun _ => 0)))] s.heap := hP
  refine lv_aload_n hx hb dX12_act_0 rfl (lv_at hl 0 rfl) ?_
  refine lv_iconst (v := 0) hx hb dX12_act_1 (by decide) ?_
  refine va_put (D := D) (ci := 12) (v := .int 0) (ty := .int) (C := RX12) (T := TX12) (N := 56) hx hb hts inX12 tyX12 tyX12_ok nmX12 hown hK hP hD hS 0 rfl rfl 0 (by decide) (hts _ kF_X12_92) (fun _ h9 => h9) rfl (by decide +kernel) rfl rfl (Nat.le_of_ble_eq_true rfl) dX12_act_2 (fun H locs hP hD hS => ?_)
  have hP : va_P D vwCl [(q_0, .inr (12, [.int 0, .int x_2, .ref q_1, .ref q_2, .ref q_3, .int x_3, .ref q_4, .ref q_5, .ref q_6, .ref q_7, .ref q_8, .int 0, .int 0, .int 0, .int 0, .long g_4, .int x_5, .int 0, .int x_6, .ref q_9, .int x_7, .ref q_10, .ref q_11, .int x_8, .ref q_12, .ref q_13, .int x_9, .int x_10, .ref q_14, .ref q_15, .ref q_16, .ref q_17, .int x_11, .long g_12, .long g_13, .int x_14, .int x_15, .int x_16, .int x_17, .ref q_18, .ref q_19, .int x_18, .int x_19, .int x_20, .int x_21, .ref q_20, .ref q_21, .int x_22, .int x_23, .ref q_22, .ref q_23, .ref q_24, .ref q_25, .int x_24, .int x_25, .int x_26])), (q_1, .inl (k 0, 27101, .inl (fun _ => 0)))] H := hP
  have hD : va_D A [(q_0, .inr (12, [.int 0, .int x_2, .ref q_1, .ref q_2, .ref q_3, .int x_3, .ref q_4, .ref q_5, .ref q_6, .ref q_7, .ref q_8, .int 0, .int 0, .int 0, .int 0, .long g_4, .int x_5, .int 0, .int x_6, .ref q_9, .int x_7, .ref q_10, .ref q_11, .int x_8, .ref q_12, .ref q_13, .int x_9, .int x_10, .ref q_14, .ref q_15, .ref q_16, .ref q_17, .int x_11, .long g_12, .long g_13, .int x_14, .int x_15, .int x_16, .int x_17, .ref q_18, .ref q_19, .int x_18, .int x_19, .int x_20, .int x_21, .ref q_20, .ref q_21, .int x_22, .int x_23, .ref q_22, .ref q_23, .ref q_24, .ref q_25, .int x_24, .int x_25, .int x_26])), (q_1, .inl (k 0, 27101, .inl (fun _ => 0)))] := hD
  refine lv_iload_n hx hb dX12_act_5 rfl (lv_at hl 1 rfl) ?_
  refine z_bi0 (z_runS (As := [.int x_0]) (rest := []) C0 (c_X12_isDay_1 l D k x_0 _) okS_X12_isDay kM_X12_127 rfl (z_p0 hK hN) rfl hl.1 rfl (Nat.le_of_ble_eq_true rfl) dX12_act_6 rfl) hP hS hA (fun r1 u1 H locs hw1 hP hS => ?_)
  obtain ⟨i1, a1⟩ := u1
  dsimp only at hw1
  rcases hw1 with ⟨rfl, rfl, c1⟩ | ⟨rfl, rfl, c1⟩
  · refine lv_if_eq (tgt := 23) hx hb dX12_act_9 (by decide) (fun _ => ?_) (fun c2 => absurd (by decide) c2)
    refine lv_aload_n hx hb dX12_act_23 rfl (lv_at hl 0 rfl) ?_
    refine lv_iconst (v := 0) hx hb dX12_act_24 (by decide) ?_
    refine va_put (D := D) (ci := 12) (v := .int 0) (ty := .int) (C := RX12) (T := TX12) (N := 56) hx hb hts inX12 tyX12 tyX12_ok nmX12 hown hK hP hD hS 0 rfl rfl 11 (by decide) (hts _ kF_X12_193) (fun _ h9 => h9) rfl (by decide +kernel) rfl rfl (Nat.le_of_ble_eq_true rfl) dX12_act_25 (fun H locs hP hD hS => ?_)
    have hP : va_P D vwCl [(q_0, .inr (12, [.int 0, .int x_2, .ref q_1, .ref q_2, .ref q_3, .int x_3, .ref q_4, .ref q_5, .ref q_6, .ref q_7, .ref q_8, .int 0, .int 0, .int 0, .int 0, .long g_4, .int x_5, .int 0, .int x_6, .ref q_9, .int x_7, .ref q_10, .ref q_11, .int x_8, .ref q_12, .ref q_13, .int x_9, .int x_10, .ref q_14, .ref q_15, .ref q_16, .ref q_17, .int x_11, .long g_12, .long g_13, .int x_14, .int x_15, .int x_16, .int x_17, .ref q_18, .ref q_19, .int x_18, .int x_19, .int x_20, .int x_21, .ref q_20, .ref q_21, .int x_22, .int x_23, .ref q_22, .ref q_23, .ref q_24, .ref q_25, .int x_24, .int x_25, .int x_26])), (q_1, .inl (k 0, 27101, .inl (fun _ => 0)))] H := hP
    have hD : va_D A [(q_0, .inr (12, [.int 0, .int x_2, .ref q_1, .ref q_2, .ref q_3, .int x_3, .ref q_4, .ref q_5, .ref q_6, .ref q_7, .ref q_8, .int 0, .int 0, .int 0, .int 0, .long g_4, .int x_5, .int 0, .int x_6, .ref q_9, .int x_7, .ref q_10, .ref q_11, .int x_8, .ref q_12, .ref q_13, .int x_9, .int x_10, .ref q_14, .ref q_15, .ref q_16, .ref q_17, .int x_11, .long g_12, .long g_13, .int x_14, .int x_15, .int x_16, .int x_17, .ref q_18, .ref q_19, .int x_18, .int x_19, .int x_20, .int x_21, .ref q_20, .ref q_21, .int x_22, .int x_23, .ref q_22, .ref q_23, .ref q_24, .ref q_25, .int x_24, .int x_25, .int x_26])), (q_1, .inl (k 0, 27101, .inl (fun _ => 0)))] := hD
    refine lv_aload_n hx hb dX12_act_28 rfl (lv_at hl 0 rfl) ?_
    refine lv_iload_n hx hb dX12_act_29 rfl (lv_at hl 1 rfl) ?_
    refine z_bi0 (z_runS (As := [.int x_0]) (rest := [.ref q_0]) C0 (c_X12_isDay_1 l D k x_0 _) okS_X12_isDay kM_X12_127 rfl (z_p0 hK hN) rfl hl.1 rfl (Nat.le_of_ble_eq_true rfl) dX12_act_30 rfl) hP hS hA (fun r3 u3 H locs hw3 hP hS => ?_)
    obtain ⟨i3, a3⟩ := u3
    dsimp only at hw3
    rcases hw3 with ⟨rfl, rfl, c3⟩ | ⟨rfl, rfl, c3⟩
    · refine lv_if_eq (tgt := 41) hx hb dX12_act_33 (by decide) (fun _ => ?_) (fun c4 => absurd (by decide) c4)
      refine lv_iconst (v := (-1)) hx hb dX12_act_41 (by decide) ?_
      refine z_bi (wr := [(q_1, .inl (k 0, 27101, .inl (fun _ => 0)))]) (z_runV (C := RX12) (As := [.int (-1)]) (rest := []) C0 (c_X12_told_1 l D k q_0 q_1 q_2 q_3 q_4 q_5 q_6 q_7 q_8 q_9 q_10 q_11 q_12 q_13 q_14 q_15 q_16 q_17 q_18 q_19 q_20 q_21 q_22 q_23 q_24 q_25 0 x_2 x_3 0 0 0 0 g_4 x_5 0 x_6 x_7 x_8 x_9 x_10 x_11 g_12 g_13 x_14 x_15 x_16 x_17 x_18 x_19 x_20 x_21 x_22 x_23 x_24 x_25 x_26 _) okV_X12_told kM_X12_106 rfl (z_pV (q0 := 0) hK hN hP hD [0] rfl rfl rfl rfl rfl) rfl hl.1 rfl (Nat.le_of_ble_eq_true rfl) dX12_act_42 rfl) hP hD hS hA [0] [1] rfl rfl rfl rfl (fun r5 u5 H locs hw5 hP hD hS => ?_)
      obtain ⟨i5, a5⟩ := u5
      dsimp only at hw5
      obtain ⟨rfl, rfl⟩ := hw5
      have hP : va_P D vwCl [(q_1, .inl (k 0, 27101, .inl (fun _ => 0))), (q_0, .inr (12, [.int 0, .int (-1), .ref q_1, .ref q_2, .ref q_3, .int x_3, .ref q_4, .ref q_5, .ref q_6, .ref q_7, .ref q_8, .int 0, .int 0, .int 0, .int 0, .long g_4, .int x_5, .int 0, .int x_6, .ref q_9, .int x_7, .ref q_10, .ref q_11, .int x_8, .ref q_12, .ref q_13, .int x_9, .int x_10, .ref q_14, .ref q_15, .ref q_16, .ref q_17, .int x_11, .long g_12, .long g_13, .int x_14, .int x_15, .int x_16, .int x_17, .ref q_18, .ref q_19, .int x_18, .int x_19, .int x_20, .int x_21, .ref q_20, .ref q_21, .int x_22, .int x_23, .ref q_22, .ref q_23, .ref q_24, .ref q_25, .int x_24, .int x_25, .int x_26]))] H := hP
      have hD : va_D A [(q_1, .inl (k 0, 27101, .inl (fun _ => 0))), (q_0, .inr (12, [.int 0, .int (-1), .ref q_1, .ref q_2, .ref q_3, .int x_3, .ref q_4, .ref q_5, .ref q_6, .ref q_7, .ref q_8, .int 0, .int 0, .int 0, .int 0, .long g_4, .int x_5, .int 0, .int x_6, .ref q_9, .int x_7, .ref q_10, .ref q_11, .int x_8, .ref q_12, .ref q_13, .int x_9, .int x_10, .ref q_14, .ref q_15, .ref q_16, .ref q_17, .int x_11, .long g_12, .long g_13, .int x_14, .int x_15, .int x_16, .int x_17, .ref q_18, .ref q_19, .int x_18, .int x_19, .int x_20, .int x_21, .ref q_20, .ref q_21, .int x_22, .int x_23, .ref q_22, .ref q_23, .ref q_24, .ref q_25, .int x_24, .int x_25, .int x_26]))] := hD
      exact z_iret C0 hr hlk rfl hK hP hD hS (0, fun _ => 0) (Or.inl ⟨rfl, rfl, ⟨c1, c3⟩⟩) [] rfl rfl rfl dX12_act_45
    · refine lv_if_eq (tgt := 41) hx hb dX12_act_33 (by decide) (fun c6 => absurd c6 (by decide)) (fun _ => ?_)
      refine lv_bipush (v := (-5)) hx hb dX12_act_36 (by decide) ?_
      refine lv_goto (tgt := 42) hx hb dX12_act_38 (by decide) ?_
      refine z_bi (wr := [(q_1, .inl (k 0, 27101, .inl (fun _ => 0)))]) (z_runV (C := RX12) (As := [.int (-5)]) (rest := []) C0 (c_X12_told_5 l D k q_0 q_1 q_2 q_3 q_4 q_5 q_6 q_7 q_8 q_9 q_10 q_11 q_12 q_13 q_14 q_15 q_16 q_17 q_18 q_19 q_20 q_21 q_22 q_23 q_24 q_25 0 x_2 x_3 0 0 0 0 g_4 x_5 0 x_6 x_7 x_8 x_9 x_10 x_11 g_12 g_13 x_14 x_15 x_16 x_17 x_18 x_19 x_20 x_21 x_22 x_23 x_24 x_25 x_26 _) okV_X12_told kM_X12_106 rfl (z_pV (q0 := 0) hK hN hP hD [0] rfl rfl rfl rfl rfl) rfl hl.1 rfl (Nat.le_of_ble_eq_true rfl) dX12_act_42 rfl) hP hD hS hA [0] [1] rfl rfl rfl rfl (fun r7 u7 H locs hw7 hP hD hS => ?_)
      obtain ⟨i7, a7⟩ := u7
      dsimp only at hw7
      obtain ⟨rfl, rfl⟩ := hw7
      have hP : va_P D vwCl [(q_1, .inl (k 0, 27101, .inl (fun _ => 0))), (q_0, .inr (12, [.int 0, .int (-5), .ref q_1, .ref q_2, .ref q_3, .int x_3, .ref q_4, .ref q_5, .ref q_6, .ref q_7, .ref q_8, .int 0, .int 0, .int 0, .int 0, .long g_4, .int x_5, .int 0, .int x_6, .ref q_9, .int x_7, .ref q_10, .ref q_11, .int x_8, .ref q_12, .ref q_13, .int x_9, .int x_10, .ref q_14, .ref q_15, .ref q_16, .ref q_17, .int x_11, .long g_12, .long g_13, .int x_14, .int x_15, .int x_16, .int x_17, .ref q_18, .ref q_19, .int x_18, .int x_19, .int x_20, .int x_21, .ref q_20, .ref q_21, .int x_22, .int x_23, .ref q_22, .ref q_23, .ref q_24, .ref q_25, .int x_24, .int x_25, .int x_26]))] H := hP
      have hD : va_D A [(q_1, .inl (k 0, 27101, .inl (fun _ => 0))), (q_0, .inr (12, [.int 0, .int (-5), .ref q_1, .ref q_2, .ref q_3, .int x_3, .ref q_4, .ref q_5, .ref q_6, .ref q_7, .ref q_8, .int 0, .int 0, .int 0, .int 0, .long g_4, .int x_5, .int 0, .int x_6, .ref q_9, .int x_7, .ref q_10, .ref q_11, .int x_8, .ref q_12, .ref q_13, .int x_9, .int x_10, .ref q_14, .ref q_15, .ref q_16, .ref q_17, .int x_11, .long g_12, .long g_13, .int x_14, .int x_15, .int x_16, .int x_17, .ref q_18, .ref q_19, .int x_18, .int x_19, .int x_20, .int x_21, .ref q_20, .ref q_21, .int x_22, .int x_23, .ref q_22, .ref q_23, .ref q_24, .ref q_25, .int x_24, .int x_25, .int x_26]))] := hD
      exact z_iret C0 hr hlk rfl hK hP hD hS (1, fun _ => 0) (Or.inr (Or.inl ⟨rfl, rfl, ⟨c1, c3⟩⟩)) [] rfl rfl rfl dX12_act_45
  · refine lv_if_eq (tgt := 23) hx hb dX12_act_9 (by decide) (fun c8 => absurd c8 (by decide)) (fun _ => ?_)
    refine lv_aload_n hx hb dX12_act_12 rfl (lv_at hl 0 rfl) ?_
    refine va_get (D := D) (ci := 12) (v := .ref q_1) (C := RX12) (T := TX12) (N := 56) hx hb hts inX12 hown hK hP 0 rfl rfl 2 (by decide) (hts _ kF_X12_7) (fun _ h9 => h9) rfl dX12_act_13 ?_
    refine lv_iconst (v := 4) hx hb dX12_act_16 (by decide) ?_
    refine va_iald hx hb hK hP 1 0 rfl rfl (by unfold vp_in; decide) dX12_act_17 ?_
    refine lv_toc (v := 0) rfl ?_
    refine lv_bipush (v := 20) hx hb dX12_act_18 (by decide) ?_
    refine lv_icmp_ne (tgt := 46) hx hb dX12_act_20 (by decide) (fun _ => ?_) (fun c9 => absurd c9 (by decide))
    refine lv_aload_n hx hb dX12_act_46 rfl (lv_at hl 0 rfl) ?_
    refine lv_iload_n hx hb dX12_act_47 rfl (lv_at hl 1 rfl) ?_
    refine z_bi (wr := [(q_1, .inl (k 0, 27101, .inl (fun _ => 0)))]) (z_runV (C := RX12) (As := [.int x_0]) (rest := []) C0 (c_X12_readText_1 l D k q_0 q_1 q_2 q_3 q_4 q_5 q_6 q_7 q_8 q_9 q_10 q_11 q_12 q_13 q_14 q_15 q_16 q_17 q_18 q_19 q_20 q_21 q_22 q_23 q_24 q_25 x_0 0 x_2 x_3 g_4 x_5 x_6 x_7 x_8 x_9 x_10 x_11 g_12 g_13 x_14 x_15 x_16 x_17 x_18 x_19 x_20 x_21 x_22 x_23 x_24 x_25 x_26 _) okV_X12_readText kM_X12_406 rfl (z_pV (q0 := 0) hK hN hP hD [0] rfl rfl rfl rfl rfl) rfl hl.1 rfl (Nat.le_of_ble_eq_true rfl) dX12_act_48 rfl) hP hD hS hA [0] [1] rfl rfl rfl rfl (fun r10 u10 H locs hw10 hP hD hS => ?_)
    obtain ⟨i10, a10⟩ := u10
    dsimp only at hw10
    obtain ⟨rfl, rfl⟩ := hw10
    have hP : va_P D vwCl [(q_1, .inl (k 0, 27101, .inl (fun _ => 0))), (q_0, .inr (12, [.int 0, .int x_2, .ref q_1, .ref q_2, .ref q_3, .int x_3, .ref q_4, .ref q_5, .ref q_6, .ref q_7, .ref q_8, .int 0, .int 0, .int 0, .int 0, .long 0, .int 0, .int 1, .int 0, .ref q_9, .int 0, .ref q_10, .ref q_11, .int 0, .ref q_12, .ref q_13, .int x_9, .int x_10, .ref q_14, .ref q_15, .ref q_16, .ref q_17, .int x_11, .long g_12, .long g_13, .int x_14, .int x_15, .int x_16, .int x_17, .ref q_18, .ref q_19, .int x_18, .int x_19, .int x_20, .int x_21, .ref q_20, .ref q_21, .int x_22, .int x_23, .ref q_22, .ref q_23, .ref q_24, .ref q_25, .int x_24, .int x_25, .int x_26]))] H := hP
    have hD : va_D A [(q_1, .inl (k 0, 27101, .inl (fun _ => 0))), (q_0, .inr (12, [.int 0, .int x_2, .ref q_1, .ref q_2, .ref q_3, .int x_3, .ref q_4, .ref q_5, .ref q_6, .ref q_7, .ref q_8, .int 0, .int 0, .int 0, .int 0, .long 0, .int 0, .int 1, .int 0, .ref q_9, .int 0, .ref q_10, .ref q_11, .int 0, .ref q_12, .ref q_13, .int x_9, .int x_10, .ref q_14, .ref q_15, .ref q_16, .ref q_17, .int x_11, .long g_12, .long g_13, .int x_14, .int x_15, .int x_16, .int x_17, .ref q_18, .ref q_19, .int x_18, .int x_19, .int x_20, .int x_21, .ref q_20, .ref q_21, .int x_22, .int x_23, .ref q_22, .ref q_23, .ref q_24, .ref q_25, .int x_24, .int x_25, .int x_26]))] := hD
    refine lv_istore_n (lv' := [(2, .int 0), (0, .ref q_0), (1, .int x_0)]) hx hb dX12_act_51 rfl hl (by decide) rfl (fun ls hl => ?_)
    refine lv_aload_n hx hb dX12_act_52 rfl (lv_at hl 1 rfl) ?_
    refine lv_iconst (v := 0) hx hb dX12_act_53 (by decide) ?_
    refine va_put (D := D) (ci := 12) (v := .int 0) (ty := .int) (C := RX12) (T := TX12) (N := 56) hx hb hts inX12 tyX12 tyX12_ok nmX12 hown hK hP hD hS 1 rfl rfl 11 (by decide) (hts _ kF_X12_193) (fun _ h9 => h9) rfl (by decide +kernel) rfl rfl (Nat.le_of_ble_eq_true rfl) dX12_act_54 (fun H locs hP hD hS => ?_)
    have hP : va_P D vwCl [(q_1, .inl (k 0, 27101, .inl (fun _ => 0))), (q_0, .inr (12, [.int 0, .int x_2, .ref q_1, .ref q_2, .ref q_3, .int x_3, .ref q_4, .ref q_5, .ref q_6, .ref q_7, .ref q_8, .int 0, .int 0, .int 0, .int 0, .long 0, .int 0, .int 1, .int 0, .ref q_9, .int 0, .ref q_10, .ref q_11, .int 0, .ref q_12, .ref q_13, .int x_9, .int x_10, .ref q_14, .ref q_15, .ref q_16, .ref q_17, .int x_11, .long g_12, .long g_13, .int x_14, .int x_15, .int x_16, .int x_17, .ref q_18, .ref q_19, .int x_18, .int x_19, .int x_20, .int x_21, .ref q_20, .ref q_21, .int x_22, .int x_23, .ref q_22, .ref q_23, .ref q_24, .ref q_25, .int x_24, .int x_25, .int x_26]))] H := hP
    have hD : va_D A [(q_1, .inl (k 0, 27101, .inl (fun _ => 0))), (q_0, .inr (12, [.int 0, .int x_2, .ref q_1, .ref q_2, .ref q_3, .int x_3, .ref q_4, .ref q_5, .ref q_6, .ref q_7, .ref q_8, .int 0, .int 0, .int 0, .int 0, .long 0, .int 0, .int 1, .int 0, .ref q_9, .int 0, .ref q_10, .ref q_11, .int 0, .ref q_12, .ref q_13, .int x_9, .int x_10, .ref q_14, .ref q_15, .ref q_16, .ref q_17, .int x_11, .long g_12, .long g_13, .int x_14, .int x_15, .int x_16, .int x_17, .ref q_18, .ref q_19, .int x_18, .int x_19, .int x_20, .int x_21, .ref q_20, .ref q_21, .int x_22, .int x_23, .ref q_22, .ref q_23, .ref q_24, .ref q_25, .int x_24, .int x_25, .int x_26]))] := hD
    refine lv_aload_n hx hb dX12_act_57 rfl (lv_at hl 1 rfl) ?_
    refine lv_iload_n hx hb dX12_act_58 rfl (lv_at hl 0 rfl) ?_
    refine lv_if_eq (tgt := 73) hx hb dX12_act_59 (by decide) (fun _ => ?_) (fun c11 => absurd (by decide) c11)
    refine lv_bipush (v := (-6)) hx hb dX12_act_73 (by decide) ?_
    refine z_bi (wr := [(q_1, .inl (k 0, 27101, .inl (fun _ => 0)))]) (z_runV (C := RX12) (As := [.int (-6)]) (rest := []) C0 (c_X12_told_6 l D k q_0 q_1 q_2 q_3 q_4 q_5 q_6 q_7 q_8 q_9 q_10 q_11 q_12 q_13 q_14 q_15 q_16 q_17 q_18 q_19 q_20 q_21 q_22 q_23 q_24 q_25 0 x_2 x_3 0 0 0 0 0 0 1 0 0 0 x_9 x_10 x_11 g_12 g_13 x_14 x_15 x_16 x_17 x_18 x_19 x_20 x_21 x_22 x_23 x_24 x_25 x_26 _) okV_X12_told kM_X12_106 rfl (z_pV (q0 := 1) hK hN hP hD [1] rfl rfl rfl rfl rfl) rfl hl.1 rfl (Nat.le_of_ble_eq_true rfl) dX12_act_75 rfl) hP hD hS hA [1] [0] rfl rfl rfl rfl (fun r12 u12 H locs hw12 hP hD hS => ?_)
    obtain ⟨i12, a12⟩ := u12
    dsimp only at hw12
    obtain ⟨rfl, rfl⟩ := hw12
    have hP : va_P D vwCl [(q_1, .inl (k 0, 27101, .inl (fun _ => 0))), (q_0, .inr (12, [.int 0, .int (-6), .ref q_1, .ref q_2, .ref q_3, .int x_3, .ref q_4, .ref q_5, .ref q_6, .ref q_7, .ref q_8, .int 0, .int 0, .int 0, .int 0, .long 0, .int 0, .int 1, .int 0, .ref q_9, .int 0, .ref q_10, .ref q_11, .int 0, .ref q_12, .ref q_13, .int x_9, .int x_10, .ref q_14, .ref q_15, .ref q_16, .ref q_17, .int x_11, .long g_12, .long g_13, .int x_14, .int x_15, .int x_16, .int x_17, .ref q_18, .ref q_19, .int x_18, .int x_19, .int x_20, .int x_21, .ref q_20, .ref q_21, .int x_22, .int x_23, .ref q_22, .ref q_23, .ref q_24, .ref q_25, .int x_24, .int x_25, .int x_26]))] H := hP
    have hD : va_D A [(q_1, .inl (k 0, 27101, .inl (fun _ => 0))), (q_0, .inr (12, [.int 0, .int (-6), .ref q_1, .ref q_2, .ref q_3, .int x_3, .ref q_4, .ref q_5, .ref q_6, .ref q_7, .ref q_8, .int 0, .int 0, .int 0, .int 0, .long 0, .int 0, .int 1, .int 0, .ref q_9, .int 0, .ref q_10, .ref q_11, .int 0, .ref q_12, .ref q_13, .int x_9, .int x_10, .ref q_14, .ref q_15, .ref q_16, .ref q_17, .int x_11, .long g_12, .long g_13, .int x_14, .int x_15, .int x_16, .int x_17, .ref q_18, .ref q_19, .int x_18, .int x_19, .int x_20, .int x_21, .ref q_20, .ref q_21, .int x_22, .int x_23, .ref q_22, .ref q_23, .ref q_24, .ref q_25, .int x_24, .int x_25, .int x_26]))] := hD
    exact z_iret C0 hr hlk rfl hK hP hD hS (2, fun _ => 0) (Or.inr (Or.inr (⟨rfl, rfl, c1⟩))) [] rfl rfl rfl dX12_act_78

set_option maxHeartbeats 4000000 in
set_option maxRecDepth 100000 in
theorem c_X11_fault_1 (l : Launch) (D : va_G) (k : Nat → ClassId) (q_0 : Nat) (q_1 : Nat) (q_2 : Nat) (q_3 : Nat) (q_4 : Nat) (q_5 : Nat) (q_6 : Nat) (q_7 : Nat) (q_8 : Nat) (q_9 : Nat) (q_10 : Nat) (x_0 : Int32) (x_1 : Int32) (x_2 : Int32) (x_3 : Int32) (x_4 : Int32) (x_5 : Int32) (x_6 : Int32) (x_7 : Int32) (x_8 : Int32) (g_9 : Int64) (x_10 : Int32) : zMi l yX11_fault cX11_fault 1 (some .int) ({ frames := 0, cells := 0, slots := 0, locals := 0 }) D k [.ref q_0] [(q_0, .inr (11, [.ref q_2, .ref q_3, .ref q_1, .ref q_4, .ref q_5, .int x_0])), (q_1, .inr (7, [.ref q_6, .int x_1, .int (-1), .int x_2, .ref q_7, .ref q_8, .ref q_9, .ref q_10, .int x_3, .int x_4, .int x_5, .int x_6, .int x_7, .int x_8, .long g_9, .int x_10]))] (fun r u => u.1 = 0 ∧ r = (-1)) (fun u => []) := by
  refine zMi_of (own := RX11) (by decide +kernel) rfl (Nat.le_of_ble_eq_true rfl) ?_
  intro p e s m args below meth c A ls C0 hr hlk hin hP hD hS hA hK hN hl
  have hx := C0.1
  have hb := C0.2.1
  have hml := C0.2.2.1
  have hown := C0.2.2.2.1
  have hts := C0.2.2.2.2
  have hl : lv_has ls 1 [(0, .ref q_0)] := hl
  have hP : va_P D vwCl [(q_0, .inr (11, [.ref q_2, .ref q_3, .ref q_1, .ref q_4, .ref q_5, .int x_0])), (q_1, .inr (7, [.ref q_6, .int x_1, .int (-1), .int x_2, .ref q_7, .ref q_8, .ref q_9, .ref q_10, .int x_3, .int x_4, .int x_5, .int x_6, .int x_7, .int x_8, .long g_9, .int x_10]))] s.heap := hP
  refine lv_aload_n hx hb dX11_fault_0 rfl (lv_at hl 0 rfl) ?_
  refine va_get (D := D) (ci := 11) (v := .ref q_1) (C := RX11) (T := TX11) (N := 6) hx hb hts inX11 hown hK hP 0 rfl rfl 2 (by decide) (hts _ kF_X11_23) (fun _ h9 => h9) rfl dX11_fault_1 ?_
  refine va_get (D := D) (ci := 7) (v := .int (-1)) (C := RX7) (T := TX7) (N := 16) hx hb hts inX7 hown hK hP 1 rfl rfl 2 (by decide) (hts _ kF_X11_204) (fun _ h9 => h9) rfl dX11_fault_4 ?_
  exact z_iret C0 hr hlk rfl hK hP hD hS (0, fun _ => 0) ⟨rfl, rfl⟩ [] rfl rfl rfl dX11_fault_7

set_option maxHeartbeats 4000000 in
set_option maxRecDepth 100000 in
theorem c_X12_fault_1 (l : Launch) (D : va_G) (k : Nat → ClassId) (q_0 : Nat) (q_1 : Nat) (q_2 : Nat) (q_3 : Nat) (q_4 : Nat) (q_5 : Nat) (q_6 : Nat) (q_7 : Nat) (q_8 : Nat) (q_9 : Nat) (q_10 : Nat) (q_11 : Nat) (q_12 : Nat) (q_13 : Nat) (q_14 : Nat) (q_15 : Nat) (q_16 : Nat) (q_17 : Nat) (q_18 : Nat) (q_19 : Nat) (q_20 : Nat) (q_21 : Nat) (q_22 : Nat) (q_23 : Nat) (q_24 : Nat) (q_25 : Nat) (x_0 : Int32) (x_1 : Int32) (x_2 : Int32) (x_3 : Int32) (x_4 : Int32) (x_5 : Int32) (x_6 : Int32) (g_7 : Int64) (x_8 : Int32) (x_9 : Int32) (x_10 : Int32) (x_11 : Int32) (x_12 : Int32) (x_13 : Int32) (x_14 : Int32) (g_15 : Int64) (g_16 : Int64) (x_17 : Int32) (x_18 : Int32) (x_19 : Int32) (x_20 : Int32) (x_21 : Int32) (x_22 : Int32) (x_23 : Int32) (x_24 : Int32) (x_25 : Int32) (x_26 : Int32) (x_27 : Int32) (x_28 : Int32) (x_29 : Int32) : zMi l yX12_fault cX12_fault 1 (some .int) ({ frames := 0, cells := 0, slots := 0, locals := 0 }) D k [.ref q_0] [(q_0, .inr (12, [.int x_0, .int x_1, .ref q_1, .ref q_2, .ref q_3, .int x_2, .ref q_4, .ref q_5, .ref q_6, .ref q_7, .ref q_8, .int x_3, .int x_4, .int x_5, .int x_6, .long g_7, .int (-1), .int x_8, .int x_9, .ref q_9, .int x_10, .ref q_10, .ref q_11, .int x_11, .ref q_12, .ref q_13, .int x_12, .int x_13, .ref q_14, .ref q_15, .ref q_16, .ref q_17, .int x_14, .long g_15, .long g_16, .int x_17, .int x_18, .int x_19, .int x_20, .ref q_18, .ref q_19, .int x_21, .int x_22, .int x_23, .int x_24, .ref q_20, .ref q_21, .int x_25, .int x_26, .ref q_22, .ref q_23, .ref q_24, .ref q_25, .int x_27, .int x_28, .int x_29]))] (fun r u => u.1 = 0 ∧ r = (-1)) (fun u => []) := by
  refine zMi_of (own := RX12) (by decide +kernel) rfl (Nat.le_of_ble_eq_true rfl) ?_
  intro p e s m args below meth c A ls C0 hr hlk hin hP hD hS hA hK hN hl
  have hx := C0.1
  have hb := C0.2.1
  have hml := C0.2.2.1
  have hown := C0.2.2.2.1
  have hts := C0.2.2.2.2
  have hl : lv_has ls 1 [(0, .ref q_0)] := hl
  have hP : va_P D vwCl [(q_0, .inr (12, [.int x_0, .int x_1, .ref q_1, .ref q_2, .ref q_3, .int x_2, .ref q_4, .ref q_5, .ref q_6, .ref q_7, .ref q_8, .int x_3, .int x_4, .int x_5, .int x_6, .long g_7, .int (-1), .int x_8, .int x_9, .ref q_9, .int x_10, .ref q_10, .ref q_11, .int x_11, .ref q_12, .ref q_13, .int x_12, .int x_13, .ref q_14, .ref q_15, .ref q_16, .ref q_17, .int x_14, .long g_15, .long g_16, .int x_17, .int x_18, .int x_19, .int x_20, .ref q_18, .ref q_19, .int x_21, .int x_22, .int x_23, .int x_24, .ref q_20, .ref q_21, .int x_25, .int x_26, .ref q_22, .ref q_23, .ref q_24, .ref q_25, .int x_27, .int x_28, .int x_29]))] s.heap := hP
  refine lv_aload_n hx hb dX12_fault_0 rfl (lv_at hl 0 rfl) ?_
  refine lv_iconst (v := 0) hx hb dX12_fault_1 (by decide) ?_
  refine va_put (D := D) (ci := 12) (v := .int 0) (ty := .int) (C := RX12) (T := TX12) (N := 56) hx hb hts inX12 tyX12 tyX12_ok nmX12 hown hK hP hD hS 0 rfl rfl 0 (by decide) (hts _ kF_X12_92) (fun _ h9 => h9) rfl (by decide +kernel) rfl rfl (Nat.le_of_ble_eq_true rfl) dX12_fault_2 (fun H locs hP hD hS => ?_)
  have hP : va_P D vwCl [(q_0, .inr (12, [.int 0, .int x_1, .ref q_1, .ref q_2, .ref q_3, .int x_2, .ref q_4, .ref q_5, .ref q_6, .ref q_7, .ref q_8, .int x_3, .int x_4, .int x_5, .int x_6, .long g_7, .int (-1), .int x_8, .int x_9, .ref q_9, .int x_10, .ref q_10, .ref q_11, .int x_11, .ref q_12, .ref q_13, .int x_12, .int x_13, .ref q_14, .ref q_15, .ref q_16, .ref q_17, .int x_14, .long g_15, .long g_16, .int x_17, .int x_18, .int x_19, .int x_20, .ref q_18, .ref q_19, .int x_21, .int x_22, .int x_23, .int x_24, .ref q_20, .ref q_21, .int x_25, .int x_26, .ref q_22, .ref q_23, .ref q_24, .ref q_25, .int x_27, .int x_28, .int x_29]))] H := hP
  have hD : va_D A [(q_0, .inr (12, [.int 0, .int x_1, .ref q_1, .ref q_2, .ref q_3, .int x_2, .ref q_4, .ref q_5, .ref q_6, .ref q_7, .ref q_8, .int x_3, .int x_4, .int x_5, .int x_6, .long g_7, .int (-1), .int x_8, .int x_9, .ref q_9, .int x_10, .ref q_10, .ref q_11, .int x_11, .ref q_12, .ref q_13, .int x_12, .int x_13, .ref q_14, .ref q_15, .ref q_16, .ref q_17, .int x_14, .long g_15, .long g_16, .int x_17, .int x_18, .int x_19, .int x_20, .ref q_18, .ref q_19, .int x_21, .int x_22, .int x_23, .int x_24, .ref q_20, .ref q_21, .int x_25, .int x_26, .ref q_22, .ref q_23, .ref q_24, .ref q_25, .int x_27, .int x_28, .int x_29]))] := hD
  refine lv_aload_n hx hb dX12_fault_5 rfl (lv_at hl 0 rfl) ?_
  refine va_get (D := D) (ci := 12) (v := .int (-1)) (C := RX12) (T := TX12) (N := 56) hx hb hts inX12 hown hK hP 0 rfl rfl 16 (by decide) (hts _ kF_X12_36) (fun _ h9 => h9) rfl dX12_fault_6 ?_
  exact z_iret C0 hr hlk rfl hK hP hD hS (0, fun _ => 0) ⟨rfl, rfl⟩ [] rfl rfl rfl dX12_fault_9

set_option maxHeartbeats 4000000 in
set_option maxRecDepth 100000 in
theorem c_X1_isInForce_1 (l : Launch) (D : va_G) (k : Nat → ClassId) (q_0 : Nat) (q_1 : Nat) (q_2 : Nat) (q_3 : Nat) (q_4 : Nat) (q_5 : Nat) (q_6 : Nat) (q_7 : Nat) (q_8 : Nat) (q_9 : Nat) (q_10 : Nat) (q_11 : Nat) (q_12 : Nat) (q_13 : Nat) (q_14 : Nat) (q_15 : Nat) (q_16 : Nat) (x_0 : Int32) (x_1 : Int32) (x_2 : Int32) (x_3 : Int32) (x_4 : Int32) (x_5 : Int32) (x_6 : Int32) (x_7 : Int32) (x_8 : Int32) (x_9 : Int32) (x_10 : Int32) (x_11 : Int32) (x_12 : Int32) (x_13 : Int32) : zMi l yX1_isInForce cX1_isInForce 5 (some .int) ({ frames := 0, cells := 0, slots := 0, locals := 0 }) D k [.ref q_0, .int x_0, .int x_1, .int x_2] [(q_0, .inr (1, [.ref q_1, .ref q_3, .ref q_4, .ref q_5, .ref q_6, .ref q_7, .ref q_8, .ref q_9, .int x_3, .int x_4, .int x_5, .int x_6, .int x_7, .int x_8, .int x_9, .int x_10, .int x_11, .int x_12, .int x_13])), (q_1, .inr (3, [.ref q_10, .ref q_11, .ref q_12, .ref q_2, .ref q_13, .ref q_14])), (q_2, .inr (0, [.int 0, .ref q_15, .ref q_16]))] (fun r u => u.1 = 0 ∧ r = (-1)) (fun u => [(q_0, .inr (1, [.ref q_1, .ref q_3, .ref q_4, .ref q_5, .ref q_6, .ref q_7, .ref q_8, .ref q_9, .int x_3, .int x_4, .int x_5, .int x_6, .int x_7, .int x_8, .int x_9, .int x_10, .int x_11, .int x_12, .int x_13])), (q_1, .inr (3, [.ref q_10, .ref q_11, .ref q_12, .ref q_2, .ref q_13, .ref q_14])), (q_2, .inr (0, [.int 0, .ref q_15, .ref q_16]))]) := by
  refine zMi_of (own := RX1) (by decide +kernel) rfl (Nat.le_of_ble_eq_true rfl) ?_
  intro p e s m args below meth c A ls C0 hr hlk hin hP hD hS hA hK hN hl
  have hx := C0.1
  have hb := C0.2.1
  have hml := C0.2.2.1
  have hown := C0.2.2.2.1
  have hts := C0.2.2.2.2
  have hl : lv_has ls 5 [(0, .ref q_0), (1, .int x_0), (2, .int x_1), (3, .int x_2)] := hl
  have hP : va_P D vwCl [(q_0, .inr (1, [.ref q_1, .ref q_3, .ref q_4, .ref q_5, .ref q_6, .ref q_7, .ref q_8, .ref q_9, .int x_3, .int x_4, .int x_5, .int x_6, .int x_7, .int x_8, .int x_9, .int x_10, .int x_11, .int x_12, .int x_13])), (q_1, .inr (3, [.ref q_10, .ref q_11, .ref q_12, .ref q_2, .ref q_13, .ref q_14])), (q_2, .inr (0, [.int 0, .ref q_15, .ref q_16]))] s.heap := hP
  refine lv_aload_n hx hb dX1_isInForce_0 rfl (lv_at hl 0 rfl) ?_
  refine va_get (D := D) (ci := 1) (v := .ref q_1) (C := RX1) (T := TX1) (N := 19) hx hb hts inX1 hown hK hP 0 rfl rfl 0 (by decide) (hts _ kF_X1_34) (fun _ h9 => h9) rfl dX1_isInForce_1 ?_
  refine va_get (D := D) (ci := 3) (v := .ref q_2) (C := RX3) (T := TX3) (N := 6) hx hb hts inX3 hown hK hP 1 rfl rfl 3 (by decide) (hts _ kF_X1_96) (fun _ h9 => h9) rfl dX1_isInForce_4 ?_
  refine lv_astore (lv' := [(4, .ref q_2), (0, .ref q_0), (1, .int x_0), (2, .int x_1), (3, .int x_2)]) hx hb dX1_isInForce_7 hl (by decide) rfl (fun ls hl => ?_)
  refine lv_iload_n hx hb dX1_isInForce_9 rfl (lv_at hl 2 rfl) ?_
  refine lv_if_lt (tgt := 52) hx hb dX1_isInForce_10 (by decide) (fun c1 => ?_) (fun c1 => ?_)
  · refine lv_iconst (v := (-1)) hx hb dX1_isInForce_52 (by decide) ?_
    exact z_iret C0 hr hlk rfl hK hP hD hS (0, fun _ => 0) ⟨rfl, rfl⟩ [0, 1, 2] rfl rfl rfl dX1_isInForce_53
  · refine lv_iload_n hx hb dX1_isInForce_13 rfl (lv_at hl 2 rfl) ?_
    refine lv_aload hx hb dX1_isInForce_14 (lv_at hl 0 rfl) ?_
    refine va_get (D := D) (ci := 0) (v := .int 0) (C := RX0) (T := TX0) (N := 3) hx hb hts inX0 hown hK hP 2 rfl rfl 0 (by decide) (hts _ kF_X1_103) (fun _ h9 => h9) rfl dX1_isInForce_16 ?_
    refine lv_icmp_ge (tgt := 52) hx hb dX1_isInForce_19 (by decide) (fun c2 => ?_) (fun c2 => ?_)
    · refine lv_iconst (v := (-1)) hx hb dX1_isInForce_52 (by decide) ?_
      exact z_iret C0 hr hlk rfl hK hP hD hS (0, fun _ => 0) ⟨rfl, rfl⟩ [0, 1, 2] rfl rfl rfl dX1_isInForce_53
    · exact (show False by have bA0 := Int32.le_toInt x_0; have bB0 := Int32.toInt_lt x_0; revert c1 c2; simp only [vp_in_iff, Int32.lt_iff_toInt_lt, Int32.le_iff_toInt_le, Int64.lt_iff_toInt_lt, Int64.le_iff_toInt_le, Int32.toInt_toInt64, ← Int32.toInt_inj, ← Int64.toInt_inj, Int32.reduceToInt, Int64.reduceToInt] <;> omega).elim

set_option maxHeartbeats 4000000 in
set_option maxRecDepth 100000 in
theorem c_X11_force_1 (l : Launch) (D : va_G) (k : Nat → ClassId) (q_0 : Nat) (q_1 : Nat) (q_2 : Nat) (q_3 : Nat) (q_4 : Nat) (q_5 : Nat) (q_6 : Nat) (q_7 : Nat) (q_8 : Nat) (q_9 : Nat) (q_10 : Nat) (q_11 : Nat) (q_12 : Nat) (q_13 : Nat) (q_14 : Nat) (q_15 : Nat) (q_16 : Nat) (q_17 : Nat) (q_18 : Nat) (q_19 : Nat) (q_20 : Nat) (x_0 : Int32) (x_1 : Int32) (x_2 : Int32) (x_3 : Int32) (x_4 : Int32) (x_5 : Int32) (x_6 : Int32) (x_7 : Int32) (x_8 : Int32) (x_9 : Int32) (x_10 : Int32) (x_11 : Int32) (x_12 : Int32) (x_13 : Int32) (x_14 : Int32) : zMi l yX11_force cX11_force 4 (some .int) ({ frames := 1, cells := 0, slots := 0, locals := 24 }) D k [.ref q_0, .int x_0, .int x_1, .int x_2] [(q_0, .inr (11, [.ref q_2, .ref q_4, .ref q_5, .ref q_1, .ref q_6, .int x_3])), (q_1, .inr (1, [.ref q_2, .ref q_7, .ref q_8, .ref q_9, .ref q_10, .ref q_11, .ref q_12, .ref q_13, .int x_4, .int x_5, .int x_6, .int x_7, .int x_8, .int x_9, .int x_10, .int x_11, .int x_12, .int x_13, .int x_14])), (q_2, .inr (3, [.ref q_14, .ref q_15, .ref q_16, .ref q_3, .ref q_17, .ref q_18])), (q_3, .inr (0, [.int 0, .ref q_19, .ref q_20]))] (fun r u => u.1 = 0 ∧ r = (-1)) (fun u => []) := by
  refine zMi_of (own := RX11) (by decide +kernel) rfl (Nat.le_of_ble_eq_true rfl) ?_
  intro p e s m args below meth c A ls C0 hr hlk hin hP hD hS hA hK hN hl
  have hx := C0.1
  have hb := C0.2.1
  have hml := C0.2.2.1
  have hown := C0.2.2.2.1
  have hts := C0.2.2.2.2
  have hl : lv_has ls 4 [(0, .ref q_0), (1, .int x_0), (2, .int x_1), (3, .int x_2)] := hl
  have hP : va_P D vwCl [(q_0, .inr (11, [.ref q_2, .ref q_4, .ref q_5, .ref q_1, .ref q_6, .int x_3])), (q_1, .inr (1, [.ref q_2, .ref q_7, .ref q_8, .ref q_9, .ref q_10, .ref q_11, .ref q_12, .ref q_13, .int x_4, .int x_5, .int x_6, .int x_7, .int x_8, .int x_9, .int x_10, .int x_11, .int x_12, .int x_13, .int x_14])), (q_2, .inr (3, [.ref q_14, .ref q_15, .ref q_16, .ref q_3, .ref q_17, .ref q_18])), (q_3, .inr (0, [.int 0, .ref q_19, .ref q_20]))] s.heap := hP
  refine lv_iload_n hx hb dX11_force_0 rfl (lv_at hl 3 rfl) ?_
  refine z_bi0 (z_runS (As := [.int x_2]) (rest := []) C0 (c_X11_isNoDay_1 l D k x_2 _) okS_X11_isNoDay kM_X11_72 rfl (z_p0 hK hN) rfl hl.1 rfl (Nat.le_of_ble_eq_true rfl) dX11_force_1 rfl) hP hS hA (fun r1 u1 H locs hw1 hP hS => ?_)
  obtain ⟨i1, a1⟩ := u1
  dsimp only at hw1
  rcases hw1 with ⟨rfl, rfl, c1⟩ | ⟨rfl, rfl, c1⟩
  · refine lv_if_eq (tgt := 9) hx hb dX11_force_4 (by decide) (fun c2 => absurd c2 (by decide)) (fun _ => ?_)
    refine lv_iconst (v := (-1)) hx hb dX11_force_7 (by decide) ?_
    exact z_iret C0 hr hlk rfl hK hP hD hS (0, fun _ => 0) ⟨rfl, rfl⟩ [] rfl rfl rfl dX11_force_8
  · refine lv_if_eq (tgt := 9) hx hb dX11_force_4 (by decide) (fun _ => ?_) (fun c3 => absurd (by decide) c3)
    refine lv_aload_n hx hb dX11_force_9 rfl (lv_at hl 0 rfl) ?_
    refine va_get (D := D) (ci := 11) (v := .ref q_1) (C := RX11) (T := TX11) (N := 6) hx hb hts inX11 hown hK hP 0 rfl rfl 3 (by decide) (hts _ kF_X11_32) (fun _ h9 => h9) rfl dX11_force_10 ?_
    refine lv_iload_n hx hb dX11_force_13 rfl (lv_at hl 1 rfl) ?_
    refine lv_iload_n hx hb dX11_force_14 rfl (lv_at hl 2 rfl) ?_
    refine lv_iload_n hx hb dX11_force_15 rfl (lv_at hl 3 rfl) ?_
    refine z_bi (wr := [(q_0, .inr (11, [.ref q_2, .ref q_4, .ref q_5, .ref q_1, .ref q_6, .int x_3]))]) (z_runV (C := RX1) (As := [.int x_0, .int x_1, .int x_2]) (rest := []) C0 (c_X1_isInForce_1 l D k q_1 q_2 q_3 q_7 q_8 q_9 q_10 q_11 q_12 q_13 q_14 q_15 q_16 q_17 q_18 q_19 q_20 x_0 x_1 x_2 x_4 x_5 x_6 x_7 x_8 x_9 x_10 x_11 x_12 x_13 x_14 _) okV_X1_isInForce kM_X11_207 rfl (z_pV (q0 := 1) hK hN hP hD [1, 2, 3] rfl rfl rfl rfl rfl) rfl hl.1 rfl (Nat.le_of_ble_eq_true rfl) dX11_force_16 rfl) hP hD hS hA [1, 2, 3] [0] rfl rfl rfl rfl (fun r4 u4 H locs hw4 hP hD hS => ?_)
    obtain ⟨i4, a4⟩ := u4
    dsimp only at hw4
    obtain ⟨rfl, rfl⟩ := hw4
    have hP : va_P D vwCl [(q_0, .inr (11, [.ref q_2, .ref q_4, .ref q_5, .ref q_1, .ref q_6, .int x_3])), (q_1, .inr (1, [.ref q_2, .ref q_7, .ref q_8, .ref q_9, .ref q_10, .ref q_11, .ref q_12, .ref q_13, .int x_4, .int x_5, .int x_6, .int x_7, .int x_8, .int x_9, .int x_10, .int x_11, .int x_12, .int x_13, .int x_14])), (q_2, .inr (3, [.ref q_14, .ref q_15, .ref q_16, .ref q_3, .ref q_17, .ref q_18])), (q_3, .inr (0, [.int 0, .ref q_19, .ref q_20]))] H := hP
    have hD : va_D A [(q_0, .inr (11, [.ref q_2, .ref q_4, .ref q_5, .ref q_1, .ref q_6, .int x_3])), (q_1, .inr (1, [.ref q_2, .ref q_7, .ref q_8, .ref q_9, .ref q_10, .ref q_11, .ref q_12, .ref q_13, .int x_4, .int x_5, .int x_6, .int x_7, .int x_8, .int x_9, .int x_10, .int x_11, .int x_12, .int x_13, .int x_14])), (q_2, .inr (3, [.ref q_14, .ref q_15, .ref q_16, .ref q_3, .ref q_17, .ref q_18])), (q_3, .inr (0, [.int 0, .ref q_19, .ref q_20]))] := hD
    exact z_iret C0 hr hlk rfl hK hP hD hS (0, fun _ => 0) ⟨rfl, rfl⟩ [] rfl rfl rfl dX11_force_19

set_option maxHeartbeats 4000000 in
set_option maxRecDepth 100000 in
theorem c_X12_force_1 (l : Launch) (D : va_G) (k : Nat → ClassId) (q_0 : Nat) (q_1 : Nat) (q_2 : Nat) (q_3 : Nat) (q_4 : Nat) (q_5 : Nat) (q_6 : Nat) (q_7 : Nat) (q_8 : Nat) (q_9 : Nat) (q_10 : Nat) (q_11 : Nat) (q_12 : Nat) (q_13 : Nat) (q_14 : Nat) (q_15 : Nat) (q_16 : Nat) (q_17 : Nat) (q_18 : Nat) (q_19 : Nat) (q_20 : Nat) (q_21 : Nat) (q_22 : Nat) (q_23 : Nat) (q_24 : Nat) (q_25 : Nat) (x_0 : Int32) (x_1 : Int32) (x_2 : Int32) (x_3 : Int32) (x_4 : Int32) (x_5 : Int32) (x_6 : Int32) (x_7 : Int32) (x_8 : Int32) (x_9 : Int32) (g_10 : Int64) (x_11 : Int32) (x_12 : Int32) (x_13 : Int32) (x_14 : Int32) (x_15 : Int32) (x_16 : Int32) (x_17 : Int32) (x_18 : Int32) (g_19 : Int64) (g_20 : Int64) (x_21 : Int32) (x_22 : Int32) (x_23 : Int32) (x_24 : Int32) (x_25 : Int32) (x_26 : Int32) (x_27 : Int32) (x_28 : Int32) (x_29 : Int32) (x_30 : Int32) (x_31 : Int32) (x_32 : Int32) (x_33 : Int32) : zMi l yX12_force cX12_force 4 (some .int) ({ frames := 1, cells := 0, slots := 0, locals := 25 }) D k [.ref q_0, .int x_0, .int x_1, .int x_2] [(q_0, .inr (12, [.int x_3, .int x_4, .ref q_1, .ref q_2, .ref q_3, .int x_5, .ref q_4, .ref q_5, .ref q_6, .ref q_7, .ref q_8, .int x_6, .int x_7, .int x_8, .int x_9, .long g_10, .int x_11, .int x_12, .int x_13, .ref q_9, .int x_14, .ref q_10, .ref q_11, .int x_15, .ref q_12, .ref q_13, .int x_16, .int x_17, .ref q_14, .ref q_15, .ref q_16, .ref q_17, .int x_18, .long g_19, .long g_20, .int x_21, .int x_22, .int x_23, .int x_24, .ref q_18, .ref q_19, .int x_25, .int x_26, .int x_27, .int x_28, .ref q_20, .ref q_21, .int x_29, .int x_30, .ref q_22, .ref q_23, .ref q_24, .ref q_25, .int x_31, .int x_32, .int x_33])), (q_1, .inl (k 0, 27101, .inl (fun _ => 0)))] (fun r u => u.1 = 0 ∧ r = (-1)) (fun u => []) := by
  refine zMi_of (own := RX12) (by decide +kernel) rfl (Nat.le_of_ble_eq_true rfl) ?_
  intro p e s m args below meth c A ls C0 hr hlk hin hP hD hS hA hK hN hl
  have hx := C0.1
  have hb := C0.2.1
  have hml := C0.2.2.1
  have hown := C0.2.2.2.1
  have hts := C0.2.2.2.2
  have hl : lv_has ls 4 [(0, .ref q_0), (1, .int x_0), (2, .int x_1), (3, .int x_2)] := hl
  have hP : va_P D vwCl [(q_0, .inr (12, [.int x_3, .int x_4, .ref q_1, .ref q_2, .ref q_3, .int x_5, .ref q_4, .ref q_5, .ref q_6, .ref q_7, .ref q_8, .int x_6, .int x_7, .int x_8, .int x_9, .long g_10, .int x_11, .int x_12, .int x_13, .ref q_9, .int x_14, .ref q_10, .ref q_11, .int x_15, .ref q_12, .ref q_13, .int x_16, .int x_17, .ref q_14, .ref q_15, .ref q_16, .ref q_17, .int x_18, .long g_19, .long g_20, .int x_21, .int x_22, .int x_23, .int x_24, .ref q_18, .ref q_19, .int x_25, .int x_26, .int x_27, .int x_28, .ref q_20, .ref q_21, .int x_29, .int x_30, .ref q_22, .ref q_23, .ref q_24, .ref q_25, .int x_31, .int x_32, .int x_33])), (q_1, .inl (k 0, 27101, .inl (fun _ => 0)))] s.heap := hP
  refine lv_aload_n hx hb dX12_force_0 rfl (lv_at hl 0 rfl) ?_
  refine lv_iconst (v := 0) hx hb dX12_force_1 (by decide) ?_
  refine va_put (D := D) (ci := 12) (v := .int 0) (ty := .int) (C := RX12) (T := TX12) (N := 56) hx hb hts inX12 tyX12 tyX12_ok nmX12 hown hK hP hD hS 0 rfl rfl 0 (by decide) (hts _ kF_X12_92) (fun _ h9 => h9) rfl (by decide +kernel) rfl rfl (Nat.le_of_ble_eq_true rfl) dX12_force_2 (fun H locs hP hD hS => ?_)
  have hP : va_P D vwCl [(q_0, .inr (12, [.int 0, .int x_4, .ref q_1, .ref q_2, .ref q_3, .int x_5, .ref q_4, .ref q_5, .ref q_6, .ref q_7, .ref q_8, .int x_6, .int x_7, .int x_8, .int x_9, .long g_10, .int x_11, .int x_12, .int x_13, .ref q_9, .int x_14, .ref q_10, .ref q_11, .int x_15, .ref q_12, .ref q_13, .int x_16, .int x_17, .ref q_14, .ref q_15, .ref q_16, .ref q_17, .int x_18, .long g_19, .long g_20, .int x_21, .int x_22, .int x_23, .int x_24, .ref q_18, .ref q_19, .int x_25, .int x_26, .int x_27, .int x_28, .ref q_20, .ref q_21, .int x_29, .int x_30, .ref q_22, .ref q_23, .ref q_24, .ref q_25, .int x_31, .int x_32, .int x_33])), (q_1, .inl (k 0, 27101, .inl (fun _ => 0)))] H := hP
  have hD : va_D A [(q_0, .inr (12, [.int 0, .int x_4, .ref q_1, .ref q_2, .ref q_3, .int x_5, .ref q_4, .ref q_5, .ref q_6, .ref q_7, .ref q_8, .int x_6, .int x_7, .int x_8, .int x_9, .long g_10, .int x_11, .int x_12, .int x_13, .ref q_9, .int x_14, .ref q_10, .ref q_11, .int x_15, .ref q_12, .ref q_13, .int x_16, .int x_17, .ref q_14, .ref q_15, .ref q_16, .ref q_17, .int x_18, .long g_19, .long g_20, .int x_21, .int x_22, .int x_23, .int x_24, .ref q_18, .ref q_19, .int x_25, .int x_26, .int x_27, .int x_28, .ref q_20, .ref q_21, .int x_29, .int x_30, .ref q_22, .ref q_23, .ref q_24, .ref q_25, .int x_31, .int x_32, .int x_33])), (q_1, .inl (k 0, 27101, .inl (fun _ => 0)))] := hD
  refine lv_iload_n hx hb dX12_force_5 rfl (lv_at hl 1 rfl) ?_
  refine lv_i2l (v := (Int32.toInt64 x_0)) hx hb dX12_force_6 rfl ?_
  refine lv_lconst (v := 0) hx hb dX12_force_7 (by decide) ?_
  refine lv_aload_n hx hb dX12_force_8 rfl (lv_at hl 0 rfl) ?_
  refine va_get (D := D) (ci := 12) (v := .ref q_1) (C := RX12) (T := TX12) (N := 56) hx hb hts inX12 hown hK hP 0 rfl rfl 2 (by decide) (hts _ kF_X12_7) (fun _ h9 => h9) rfl dX12_force_9 ?_
  refine lv_iconst (v := 4) hx hb dX12_force_12 (by decide) ?_
  refine va_iald hx hb hK hP 1 0 rfl rfl (by unfold vp_in; decide) dX12_force_13 ?_
  refine lv_toc (v := 0) rfl ?_
  refine lv_i2l (v := 0) hx hb dX12_force_14 (by decide) ?_
  refine lv_lconst (v := 1) hx hb dX12_force_15 (by decide) ?_
  refine lv_lsub hx hb dX12_force_16 ?_
  refine lv_tocl (v := (-1)) (by decide) ?_
  refine z_bi0 (z_runS (As := [.long (Int32.toInt64 x_0), .long 0, .long (-1)]) (rest := []) C0 (c_X12_in_1 l D k (Int32.toInt64 x_0) 0 (-1) _) okS_X12_in kM_X12_100 rfl (z_p0 hK hN) rfl hl.1 rfl (Nat.le_of_ble_eq_true rfl) dX12_force_17 rfl) hP hS hA (fun r1 u1 H locs hw1 hP hS => ?_)
  obtain ⟨i1, a1⟩ := u1
  dsimp only at hw1
  rcases hw1 with ⟨rfl, rfl, c1⟩ | ⟨rfl, rfl, c1⟩
  · refine lv_if_eq (tgt := 53) hx hb dX12_force_20 (by decide) (fun _ => ?_) (fun c2 => absurd (by decide) c2)
    refine lv_iconst (v := (-1)) hx hb dX12_force_53 (by decide) ?_
    exact z_iret C0 hr hlk rfl hK hP hD hS (0, fun _ => 0) ⟨rfl, rfl⟩ [] rfl rfl rfl dX12_force_54
  · exact (show False by have bA0 := Int32.le_toInt x_0; have bB0 := Int32.toInt_lt x_0; revert c1; simp only [vp_in_iff, Int32.lt_iff_toInt_lt, Int32.le_iff_toInt_le, Int64.lt_iff_toInt_lt, Int64.le_iff_toInt_le, Int32.toInt_toInt64, ← Int32.toInt_inj, ← Int64.toInt_inj, Int32.reduceToInt, Int64.reduceToInt] <;> omega).elim
