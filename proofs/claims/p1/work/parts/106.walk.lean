set_option maxHeartbeats 4000000 in
set_option maxRecDepth 100000 in
theorem c_X12_join_1 (l : Launch) (D : va_G) (k : Nat → ClassId) (q_0 : Nat) (q_1 : Nat) (q_2 : Nat) (q_3 : Nat) (q_4 : Nat) (q_5 : Nat) (q_6 : Nat) (q_7 : Nat) (q_8 : Nat) (q_9 : Nat) (q_10 : Nat) (q_11 : Nat) (q_12 : Nat) (q_13 : Nat) (q_14 : Nat) (q_15 : Nat) (q_16 : Nat) (q_17 : Nat) (q_18 : Nat) (q_19 : Nat) (q_20 : Nat) (q_21 : Nat) (q_22 : Nat) (q_23 : Nat) (q_24 : Nat) (q_25 : Nat) (x_0 : Int32) (x_1 : Int32) (x_2 : Int32) (x_3 : Int32) (x_4 : Int32) (x_5 : Int32) (x_6 : Int32) (x_7 : Int32) (g_8 : Int64) (x_9 : Int32) (x_10 : Int32) (x_11 : Int32) (x_12 : Int32) (x_13 : Int32) (x_14 : Int32) (x_15 : Int32) (x_16 : Int32) (g_17 : Int64) (g_18 : Int64) (x_19 : Int32) (x_20 : Int32) (x_21 : Int32) (x_22 : Int32) (x_23 : Int32) (x_24 : Int32) (x_25 : Int32) (x_26 : Int32) (x_27 : Int32) (x_28 : Int32) : zMi l yX12_join cX12_join 10 (some .int) ({ frames := 1, cells := 0, slots := 0, locals := 25 }) D k [.ref q_0, .int x_0] [(q_0, .inr (12, [.int x_1, .int x_2, .ref q_1, .ref q_2, .ref q_3, .int x_3, .ref q_4, .ref q_5, .ref q_6, .ref q_7, .ref q_8, .int x_4, .int x_5, .int x_6, .int x_7, .long g_8, .int x_9, .int x_10, .int x_11, .ref q_9, .int x_12, .ref q_10, .ref q_11, .int x_13, .ref q_12, .ref q_13, .int x_14, .int x_15, .ref q_14, .ref q_15, .ref q_16, .ref q_17, .int x_16, .long g_17, .long g_18, .int x_19, .int x_20, .int x_21, .int x_22, .ref q_18, .ref q_19, .int x_23, .int x_24, .int x_25, .int 0, .ref q_20, .ref q_21, .int 0, .int 0, .ref q_22, .ref q_23, .ref q_24, .ref q_25, .int x_26, .int x_27, .int x_28])), (q_1, .inl (k 0, 27101, .inl (fun _ => 0)))] (fun r u => (u.1 = 0 ∧ r = (-1) ∧ (((((Int32.toInt64 x_0) < 0) ∨ (¬ (Int32.toInt64 x_0) < 0 ∧ (8 : Int64) < (Int32.toInt64 x_0)))))) ∨ (u.1 = 1 ∧ r = 0 ∧ ((((¬ (Int32.toInt64 x_0) < 0 ∧ ¬ (8 : Int64) < (Int32.toInt64 x_0))))))) (fun u => []) := by
  refine zMi_of (own := RX12) (by decide +kernel) rfl (Nat.le_of_ble_eq_true rfl) ?_
  intro p e s m args below meth c A ls C0 hr hlk hin hP hD hS hA hK hN hl
  have hx := C0.1
  have hb := C0.2.1
  have hml := C0.2.2.1
  have hown := C0.2.2.2.1
  have hts := C0.2.2.2.2
  have hl : lv_has ls 10 [(0, .ref q_0), (1, .int x_0)] := hl
  have hP : va_P D vwCl [(q_0, .inr (12, [.int x_1, .int x_2, .ref q_1, .ref q_2, .ref q_3, .int x_3, .ref q_4, .ref q_5, .ref q_6, .ref q_7, .ref q_8, .int x_4, .int x_5, .int x_6, .int x_7, .long g_8, .int x_9, .int x_10, .int x_11, .ref q_9, .int x_12, .ref q_10, .ref q_11, .int x_13, .ref q_12, .ref q_13, .int x_14, .int x_15, .ref q_14, .ref q_15, .ref q_16, .ref q_17, .int x_16, .long g_17, .long g_18, .int x_19, .int x_20, .int x_21, .int x_22, .ref q_18, .ref q_19, .int x_23, .int x_24, .int x_25, .int 0, .ref q_20, .ref q_21, .int 0, .int 0, .ref q_22, .ref q_23, .ref q_24, .ref q_25, .int x_26, .int x_27, .int x_28])), (q_1, .inl (k 0, 27101, .inl (fun _ => 0)))] s.heap := hP
  refine lv_aload_n hx hb dX12_join_0 rfl (lv_at hl 0 rfl) ?_
  refine lv_iconst (v := 0) hx hb dX12_join_1 (by decide) ?_
  refine va_put (D := D) (ci := 12) (v := .int 0) (ty := .int) (C := RX12) (T := TX12) (N := 56) hx hb hts inX12 tyX12 tyX12_ok nmX12 hown hK hP hD hS 0 rfl rfl 0 (by decide) (hts _ kF_X12_92) (fun _ h9 => h9) rfl (by decide +kernel) rfl rfl (Nat.le_of_ble_eq_true rfl) dX12_join_2 (fun H locs hP hD hS => ?_)
  have hP : va_P D vwCl [(q_0, .inr (12, [.int 0, .int x_2, .ref q_1, .ref q_2, .ref q_3, .int x_3, .ref q_4, .ref q_5, .ref q_6, .ref q_7, .ref q_8, .int x_4, .int x_5, .int x_6, .int x_7, .long g_8, .int x_9, .int x_10, .int x_11, .ref q_9, .int x_12, .ref q_10, .ref q_11, .int x_13, .ref q_12, .ref q_13, .int x_14, .int x_15, .ref q_14, .ref q_15, .ref q_16, .ref q_17, .int x_16, .long g_17, .long g_18, .int x_19, .int x_20, .int x_21, .int x_22, .ref q_18, .ref q_19, .int x_23, .int x_24, .int x_25, .int 0, .ref q_20, .ref q_21, .int 0, .int 0, .ref q_22, .ref q_23, .ref q_24, .ref q_25, .int x_26, .int x_27, .int x_28])), (q_1, .inl (k 0, 27101, .inl (fun _ => 0)))] H := hP
  have hD : va_D A [(q_0, .inr (12, [.int 0, .int x_2, .ref q_1, .ref q_2, .ref q_3, .int x_3, .ref q_4, .ref q_5, .ref q_6, .ref q_7, .ref q_8, .int x_4, .int x_5, .int x_6, .int x_7, .long g_8, .int x_9, .int x_10, .int x_11, .ref q_9, .int x_12, .ref q_10, .ref q_11, .int x_13, .ref q_12, .ref q_13, .int x_14, .int x_15, .ref q_14, .ref q_15, .ref q_16, .ref q_17, .int x_16, .long g_17, .long g_18, .int x_19, .int x_20, .int x_21, .int x_22, .ref q_18, .ref q_19, .int x_23, .int x_24, .int x_25, .int 0, .ref q_20, .ref q_21, .int 0, .int 0, .ref q_22, .ref q_23, .ref q_24, .ref q_25, .int x_26, .int x_27, .int x_28])), (q_1, .inl (k 0, 27101, .inl (fun _ => 0)))] := hD
  refine lv_iload_n hx hb dX12_join_5 rfl (lv_at hl 1 rfl) ?_
  refine lv_i2l (v := (Int32.toInt64 x_0)) hx hb dX12_join_6 rfl ?_
  refine lv_lconst (v := 0) hx hb dX12_join_7 (by decide) ?_
  refine lv_ldc2 hx hb hown (hts _ kL_X12_507) dX12_join_8 ?_
  refine z_bi0 (z_runS (As := [.long (Int32.toInt64 x_0), .long 0, .long 8]) (rest := []) C0 (c_X12_in_1 l D k (Int32.toInt64 x_0) 0 8 _) okS_X12_in kM_X12_100 rfl (z_p0 hK hN) rfl hl.1 rfl (Nat.le_of_ble_eq_true rfl) dX12_join_11 rfl) hP hS hA (fun r1 u1 H locs hw1 hP hS => ?_)
  obtain ⟨i1, a1⟩ := u1
  dsimp only at hw1
  rcases hw1 with ⟨rfl, rfl, c1⟩ | ⟨rfl, rfl, c1⟩
  · refine lv_if_ne (tgt := 19) hx hb dX12_join_14 (by decide) (fun c2 => absurd (by decide) c2) (fun _ => ?_)
    refine lv_iconst (v := (-1)) hx hb dX12_join_17 (by decide) ?_
    exact z_iret C0 hr hlk rfl hK hP hD hS (0, fun _ => 0) (Or.inl ⟨rfl, rfl, c1⟩) [] rfl rfl rfl dX12_join_18
  · refine lv_if_ne (tgt := 19) hx hb dX12_join_14 (by decide) (fun _ => ?_) (fun c3 => absurd c3 (by decide))
    refine lv_aload_n hx hb dX12_join_19 rfl (lv_at hl 0 rfl) ?_
    refine va_get (D := D) (ci := 12) (v := .ref q_1) (C := RX12) (T := TX12) (N := 56) hx hb hts inX12 hown hK hP 0 rfl rfl 2 (by decide) (hts _ kF_X12_7) (fun _ h9 => h9) rfl dX12_join_20 ?_
    refine lv_bipush (v := 6) hx hb dX12_join_23 (by decide) ?_
    refine va_iald hx hb hK hP 1 0 rfl rfl (by unfold vp_in; decide) dX12_join_25 ?_
    refine lv_toc (v := 0) rfl ?_
    refine lv_istore_n (lv' := [(2, .int 0), (0, .ref q_0), (1, .int x_0)]) hx hb dX12_join_26 rfl hl (by decide) rfl (fun ls hl => ?_)
    refine lv_aload_n hx hb dX12_join_27 rfl (lv_at hl 1 rfl) ?_
    refine va_get (D := D) (ci := 12) (v := .ref q_1) (C := RX12) (T := TX12) (N := 56) hx hb hts inX12 hown hK hP 0 rfl rfl 2 (by decide) (hts _ kF_X12_7) (fun _ h9 => h9) rfl dX12_join_28 ?_
    refine lv_iconst (v := 5) hx hb dX12_join_31 (by decide) ?_
    refine va_iald hx hb hK hP 1 0 rfl rfl (by unfold vp_in; decide) dX12_join_32 ?_
    refine lv_toc (v := 0) rfl ?_
    refine lv_iconst (v := 1) hx hb dX12_join_33 (by decide) ?_
    refine lv_iadd hx hb dX12_join_34 ?_
    refine lv_toc (v := 1) (by decide) ?_
    refine lv_istore_n (lv' := [(3, .int 1), (2, .int 0), (0, .ref q_0), (1, .int x_0)]) hx hb dX12_join_35 rfl hl (by decide) rfl (fun ls hl => ?_)
    refine lv_iconst (v := 1) hx hb dX12_join_36 (by decide) ?_
    refine lv_istore (lv' := [(4, .int 1), (3, .int 1), (2, .int 0), (0, .ref q_0), (1, .int x_0)]) hx hb dX12_join_37 hl (by decide) rfl (fun ls hl => ?_)
    refine lv_iconst (v := 0) hx hb dX12_join_39 (by decide) ?_
    refine lv_istore (lv' := [(5, .int 0), (4, .int 1), (3, .int 1), (2, .int 0), (0, .ref q_0), (1, .int x_0)]) hx hb dX12_join_40 hl (by decide) rfl (fun ls hl => ?_)
    refine lv_iload hx hb dX12_join_42 (lv_at hl 0 rfl) ?_
    refine lv_iload_n hx hb dX12_join_44 rfl (lv_at hl 3 rfl) ?_
    refine lv_icmp_ge (tgt := 60) hx hb dX12_join_45 (by decide) (fun _ => ?_) (fun c4 => absurd (by decide) c4)
    refine lv_iconst (v := (-1)) hx hb dX12_join_60 (by decide) ?_
    refine lv_istore (lv' := [(5, .int (-1)), (4, .int 1), (3, .int 1), (2, .int 0), (0, .ref q_0), (1, .int x_0)]) hx hb dX12_join_61 hl (by decide) rfl (fun ls hl => ?_)
    refine lv_iconst (v := 0) hx hb dX12_join_63 (by decide) ?_
    refine lv_istore (lv' := [(6, .int 0), (5, .int (-1)), (4, .int 1), (3, .int 1), (2, .int 0), (0, .ref q_0), (1, .int x_0)]) hx hb dX12_join_64 hl (by decide) rfl (fun ls hl => ?_)
    refine lv_iconst (v := 0) hx hb dX12_join_66 (by decide) ?_
    refine lv_istore (lv' := [(7, .int 0), (6, .int 0), (5, .int (-1)), (4, .int 1), (3, .int 1), (2, .int 0), (0, .ref q_0), (1, .int x_0)]) hx hb dX12_join_67 hl (by decide) rfl (fun ls hl => ?_)
    refine lv_iload hx hb dX12_join_69 (lv_at hl 0 rfl) ?_
    refine lv_iload hx hb dX12_join_71 (lv_at hl 3 rfl) ?_
    refine lv_icmp_ge (tgt := 246) hx hb dX12_join_73 (by decide) (fun c5 => absurd c5 (by decide)) (fun _ => ?_)
    refine lv_iload hx hb dX12_join_76 (lv_at hl 0 rfl) ?_
    refine lv_istore (lv' := [(8, .int 0), (7, .int 0), (6, .int 0), (5, .int (-1)), (4, .int 1), (3, .int 1), (2, .int 0), (0, .ref q_0), (1, .int x_0)]) hx hb dX12_join_78 hl (by decide) rfl (fun ls hl => ?_)
    refine lv_iload_n hx hb dX12_join_80 rfl (lv_at hl 6 rfl) ?_
    refine lv_iconst (v := 1) hx hb dX12_join_81 (by decide) ?_
    refine lv_isub hx hb dX12_join_82 ?_
    refine lv_toc (v := (-1)) (by decide) ?_
    refine lv_istore (lv' := [(9, .int (-1)), (8, .int 0), (7, .int 0), (6, .int 0), (5, .int (-1)), (4, .int 1), (3, .int 1), (2, .int 0), (0, .ref q_0), (1, .int x_0)]) hx hb dX12_join_83 hl (by decide) rfl (fun ls hl => ?_)
    refine lv_iload hx hb dX12_join_85 (lv_at hl 0 rfl) ?_
    refine lv_if_lt (tgt := 127) hx hb dX12_join_87 (by decide) (fun _ => ?_) (fun c6 => absurd (by decide) c6)
    refine lv_aload_n hx hb dX12_join_127 rfl (lv_at hl 8 rfl) ?_
    refine lv_iload_n hx hb dX12_join_128 rfl (lv_at hl 9 rfl) ?_
    refine z_bi (wr := []) (z_runV (C := RX12) (As := [.int x_0]) (rest := []) C0 (c_X12_isJoin_1 l D k q_0 q_1 q_2 q_3 q_4 q_5 q_6 q_7 q_8 q_9 q_10 q_11 q_12 q_13 q_14 q_15 q_16 q_17 q_18 q_19 q_20 q_21 q_22 q_23 q_24 q_25 x_0 0 x_2 x_3 x_4 x_5 x_6 x_7 g_8 x_9 x_10 x_11 x_12 x_13 x_14 x_15 x_16 g_17 g_18 x_19 x_20 x_21 x_22 x_23 x_24 x_25 0 0 0 x_26 x_27 x_28 _) okV_X12_isJoin kM_X12_509 rfl (z_pV (q0 := 0) hK hN hP hD [0, 1] rfl rfl rfl rfl rfl) rfl hl.1 rfl (Nat.le_of_ble_eq_true rfl) dX12_join_129 rfl) hP hD hS hA [0, 1] [] rfl rfl rfl rfl (fun r7 u7 H locs hw7 hP hD hS => ?_)
    obtain ⟨i7, a7⟩ := u7
    dsimp only at hw7
    obtain ⟨rfl, rfl⟩ := hw7
    have hP : va_P D vwCl [(q_0, .inr (12, [.int 0, .int x_2, .ref q_1, .ref q_2, .ref q_3, .int x_3, .ref q_4, .ref q_5, .ref q_6, .ref q_7, .ref q_8, .int x_4, .int x_5, .int x_6, .int x_7, .long g_8, .int x_9, .int x_10, .int x_11, .ref q_9, .int x_12, .ref q_10, .ref q_11, .int x_13, .ref q_12, .ref q_13, .int x_14, .int x_15, .ref q_14, .ref q_15, .ref q_16, .ref q_17, .int x_16, .long g_17, .long g_18, .int x_19, .int x_20, .int x_21, .int x_22, .ref q_18, .ref q_19, .int x_23, .int x_24, .int x_25, .int 0, .ref q_20, .ref q_21, .int 0, .int 0, .ref q_22, .ref q_23, .ref q_24, .ref q_25, .int x_26, .int x_27, .int x_28])), (q_1, .inl (k 0, 27101, .inl (fun _ => 0)))] H := hP
    have hD : va_D A [(q_0, .inr (12, [.int 0, .int x_2, .ref q_1, .ref q_2, .ref q_3, .int x_3, .ref q_4, .ref q_5, .ref q_6, .ref q_7, .ref q_8, .int x_4, .int x_5, .int x_6, .int x_7, .long g_8, .int x_9, .int x_10, .int x_11, .ref q_9, .int x_12, .ref q_10, .ref q_11, .int x_13, .ref q_12, .ref q_13, .int x_14, .int x_15, .ref q_14, .ref q_15, .ref q_16, .ref q_17, .int x_16, .long g_17, .long g_18, .int x_19, .int x_20, .int x_21, .int x_22, .ref q_18, .ref q_19, .int x_23, .int x_24, .int x_25, .int 0, .ref q_20, .ref q_21, .int 0, .int 0, .ref q_22, .ref q_23, .ref q_24, .ref q_25, .int x_26, .int x_27, .int x_28])), (q_1, .inl (k 0, 27101, .inl (fun _ => 0)))] := hD
    refine lv_if_eq (tgt := 240) hx hb dX12_join_132 (by decide) (fun c8 => absurd c8 (by decide)) (fun _ => ?_)
    refine lv_aload_n hx hb dX12_join_135 rfl (lv_at hl 8 rfl) ?_
    refine va_get (D := D) (ci := 12) (v := .int 0) (C := RX12) (T := TX12) (N := 56) hx hb hts inX12 hown hK hP 0 rfl rfl 47 (by decide) (hts _ kF_X12_498) (fun _ h9 => h9) rfl dX12_join_136 ?_
    refine lv_iload hx hb dX12_join_139 (lv_at hl 4 rfl) ?_
    refine lv_icmp_gt (tgt := 162) hx hb dX12_join_141 (by decide) (fun _ => ?_) (fun c9 => absurd (by decide) c9)
    refine lv_aload_n hx hb dX12_join_162 rfl (lv_at hl 8 rfl) ?_
    refine va_get (D := D) (ci := 12) (v := .int 0) (C := RX12) (T := TX12) (N := 56) hx hb hts inX12 hown hK hP 0 rfl rfl 47 (by decide) (hts _ kF_X12_498) (fun _ h9 => h9) rfl dX12_join_163 ?_
    refine lv_istore (lv' := [(5, .int 0), (9, .int (-1)), (8, .int 0), (7, .int 0), (6, .int 0), (4, .int 1), (3, .int 1), (2, .int 0), (0, .ref q_0), (1, .int x_0)]) hx hb dX12_join_166 hl (by decide) rfl (fun ls hl => ?_)
    refine lv_aload_n hx hb dX12_join_168 rfl (lv_at hl 8 rfl) ?_
    refine va_get (D := D) (ci := 12) (v := .int 0) (C := RX12) (T := TX12) (N := 56) hx hb hts inX12 hown hK hP 0 rfl rfl 48 (by decide) (hts _ kF_X12_501) (fun _ h9 => h9) rfl dX12_join_169 ?_
    refine lv_istore (lv' := [(6, .int 0), (5, .int 0), (9, .int (-1)), (8, .int 0), (7, .int 0), (4, .int 1), (3, .int 1), (2, .int 0), (0, .ref q_0), (1, .int x_0)]) hx hb dX12_join_172 hl (by decide) rfl (fun ls hl => ?_)
    refine lv_aload_n hx hb dX12_join_174 rfl (lv_at hl 8 rfl) ?_
    refine lv_iconst (v := 0) hx hb dX12_join_175 (by decide) ?_
    refine va_put (D := D) (ci := 12) (v := .int 0) (ty := .int) (C := RX12) (T := TX12) (N := 56) hx hb hts inX12 tyX12 tyX12_ok nmX12 hown hK hP hD hS 0 rfl rfl 44 (by decide) (hts _ kF_X12_512) (fun _ h9 => h9) rfl (by decide +kernel) rfl rfl (Nat.le_of_ble_eq_true rfl) dX12_join_176 (fun H locs hP hD hS => ?_)
    have hP : va_P D vwCl [(q_0, .inr (12, [.int 0, .int x_2, .ref q_1, .ref q_2, .ref q_3, .int x_3, .ref q_4, .ref q_5, .ref q_6, .ref q_7, .ref q_8, .int x_4, .int x_5, .int x_6, .int x_7, .long g_8, .int x_9, .int x_10, .int x_11, .ref q_9, .int x_12, .ref q_10, .ref q_11, .int x_13, .ref q_12, .ref q_13, .int x_14, .int x_15, .ref q_14, .ref q_15, .ref q_16, .ref q_17, .int x_16, .long g_17, .long g_18, .int x_19, .int x_20, .int x_21, .int x_22, .ref q_18, .ref q_19, .int x_23, .int x_24, .int x_25, .int 0, .ref q_20, .ref q_21, .int 0, .int 0, .ref q_22, .ref q_23, .ref q_24, .ref q_25, .int x_26, .int x_27, .int x_28])), (q_1, .inl (k 0, 27101, .inl (fun _ => 0)))] H := hP
    have hD : va_D A [(q_0, .inr (12, [.int 0, .int x_2, .ref q_1, .ref q_2, .ref q_3, .int x_3, .ref q_4, .ref q_5, .ref q_6, .ref q_7, .ref q_8, .int x_4, .int x_5, .int x_6, .int x_7, .long g_8, .int x_9, .int x_10, .int x_11, .ref q_9, .int x_12, .ref q_10, .ref q_11, .int x_13, .ref q_12, .ref q_13, .int x_14, .int x_15, .ref q_14, .ref q_15, .ref q_16, .ref q_17, .int x_16, .long g_17, .long g_18, .int x_19, .int x_20, .int x_21, .int x_22, .ref q_18, .ref q_19, .int x_23, .int x_24, .int x_25, .int 0, .ref q_20, .ref q_21, .int 0, .int 0, .ref q_22, .ref q_23, .ref q_24, .ref q_25, .int x_26, .int x_27, .int x_28])), (q_1, .inl (k 0, 27101, .inl (fun _ => 0)))] := hD
    refine lv_iconst (v := 0) hx hb dX12_join_179 (by decide) ?_
    refine lv_istore (lv' := [(9, .int 0), (6, .int 0), (5, .int 0), (8, .int 0), (7, .int 0), (4, .int 1), (3, .int 1), (2, .int 0), (0, .ref q_0), (1, .int x_0)]) hx hb dX12_join_180 hl (by decide) rfl (fun ls hl => ?_)
    refine lv_iload hx hb dX12_join_182 (lv_at hl 0 rfl) ?_
    refine lv_iload_n hx hb dX12_join_184 rfl (lv_at hl 7 rfl) ?_
    refine lv_icmp_ge (tgt := 208) hx hb dX12_join_185 (by decide) (fun _ => ?_) (fun c10 => absurd (by decide) c10)
    refine lv_aload_n hx hb dX12_join_208 rfl (lv_at hl 8 rfl) ?_
    refine lv_dup hx hb dX12_join_209 rfl ?_
    refine va_get (D := D) (ci := 12) (v := .int 0) (C := RX12) (T := TX12) (N := 56) hx hb hts inX12 hown hK hP 0 rfl rfl 44 (by decide) (hts _ kF_X12_512) (fun _ h9 => h9) rfl dX12_join_210 ?_
    refine lv_aload_n hx hb dX12_join_213 rfl (lv_at hl 8 rfl) ?_
    refine va_get (D := D) (ci := 12) (v := .int 0) (C := RX12) (T := TX12) (N := 56) hx hb hts inX12 hown hK hP 0 rfl rfl 47 (by decide) (hts _ kF_X12_498) (fun _ h9 => h9) rfl dX12_join_214 ?_
    refine lv_iload hx hb dX12_join_217 (lv_at hl 2 rfl) ?_
    refine lv_icmp_ne (tgt := 235) hx hb dX12_join_219 (by decide) (fun c11 => absurd (by decide) c11) (fun _ => ?_)
    refine lv_aload_n hx hb dX12_join_222 rfl (lv_at hl 8 rfl) ?_
    refine va_get (D := D) (ci := 12) (v := .int 0) (C := RX12) (T := TX12) (N := 56) hx hb hts inX12 hown hK hP 0 rfl rfl 48 (by decide) (hts _ kF_X12_501) (fun _ h9 => h9) rfl dX12_join_223 ?_
    refine lv_iload hx hb dX12_join_226 (lv_at hl 1 rfl) ?_
    refine lv_icmp_ne (tgt := 235) hx hb dX12_join_228 (by decide) (fun c12 => absurd (by decide) c12) (fun _ => ?_)
    refine lv_iconst (v := 1) hx hb dX12_join_231 (by decide) ?_
    refine lv_goto (tgt := 236) hx hb dX12_join_232 (by decide) ?_
    refine lv_iadd hx hb dX12_join_236 ?_
    refine lv_toc (v := 1) (by decide) ?_
    refine va_put (D := D) (ci := 12) (v := .int 1) (ty := .int) (C := RX12) (T := TX12) (N := 56) hx hb hts inX12 tyX12 tyX12_ok nmX12 hown hK hP hD hS 0 rfl rfl 44 (by decide) (hts _ kF_X12_512) (fun _ h9 => h9) rfl (by decide +kernel) rfl rfl (Nat.le_of_ble_eq_true rfl) dX12_join_237 (fun H locs hP hD hS => ?_)
    have hP : va_P D vwCl [(q_0, .inr (12, [.int 0, .int x_2, .ref q_1, .ref q_2, .ref q_3, .int x_3, .ref q_4, .ref q_5, .ref q_6, .ref q_7, .ref q_8, .int x_4, .int x_5, .int x_6, .int x_7, .long g_8, .int x_9, .int x_10, .int x_11, .ref q_9, .int x_12, .ref q_10, .ref q_11, .int x_13, .ref q_12, .ref q_13, .int x_14, .int x_15, .ref q_14, .ref q_15, .ref q_16, .ref q_17, .int x_16, .long g_17, .long g_18, .int x_19, .int x_20, .int x_21, .int x_22, .ref q_18, .ref q_19, .int x_23, .int x_24, .int x_25, .int 1, .ref q_20, .ref q_21, .int 0, .int 0, .ref q_22, .ref q_23, .ref q_24, .ref q_25, .int x_26, .int x_27, .int x_28])), (q_1, .inl (k 0, 27101, .inl (fun _ => 0)))] H := hP
    have hD : va_D A [(q_0, .inr (12, [.int 0, .int x_2, .ref q_1, .ref q_2, .ref q_3, .int x_3, .ref q_4, .ref q_5, .ref q_6, .ref q_7, .ref q_8, .int x_4, .int x_5, .int x_6, .int x_7, .long g_8, .int x_9, .int x_10, .int x_11, .ref q_9, .int x_12, .ref q_10, .ref q_11, .int x_13, .ref q_12, .ref q_13, .int x_14, .int x_15, .ref q_14, .ref q_15, .ref q_16, .ref q_17, .int x_16, .long g_17, .long g_18, .int x_19, .int x_20, .int x_21, .int x_22, .ref q_18, .ref q_19, .int x_23, .int x_24, .int x_25, .int 1, .ref q_20, .ref q_21, .int 0, .int 0, .ref q_22, .ref q_23, .ref q_24, .ref q_25, .int x_26, .int x_27, .int x_28])), (q_1, .inl (k 0, 27101, .inl (fun _ => 0)))] := hD
    refine lv_iinc (v := 1) (lv' := [(7, .int 1), (9, .int 0), (6, .int 0), (5, .int 0), (8, .int 0), (4, .int 1), (3, .int 1), (2, .int 0), (0, .ref q_0), (1, .int x_0)]) hx hb dX12_join_240 hl (k := 4) rfl (by decide) (by decide) rfl (fun ls hl => ?_)
    refine lv_goto (tgt := 69) hx hb dX12_join_243 (by decide) ?_
    refine lv_iload hx hb dX12_join_69 (lv_at hl 0 rfl) ?_
    refine lv_iload hx hb dX12_join_71 (lv_at hl 5 rfl) ?_
    refine lv_icmp_ge (tgt := 246) hx hb dX12_join_73 (by decide) (fun _ => ?_) (fun c13 => absurd (by decide) c13)
    refine lv_aload_n hx hb dX12_join_246 rfl (lv_at hl 8 rfl) ?_
    refine lv_iconst (v := 1) hx hb dX12_join_247 (by decide) ?_
    refine va_put (D := D) (ci := 12) (v := .int 1) (ty := .boolean) (C := RX12) (T := TX12) (N := 56) hx hb hts inX12 tyX12 tyX12_ok nmX12 hown hK hP hD hS 0 rfl rfl 42 (by decide) (hts _ kF_X12_515) (fun _ h9 => h9) rfl (by decide +kernel) rfl rfl (Nat.le_of_ble_eq_true rfl) dX12_join_248 (fun H locs hP hD hS => ?_)
    have hP : va_P D vwCl [(q_0, .inr (12, [.int 0, .int x_2, .ref q_1, .ref q_2, .ref q_3, .int x_3, .ref q_4, .ref q_5, .ref q_6, .ref q_7, .ref q_8, .int x_4, .int x_5, .int x_6, .int x_7, .long g_8, .int x_9, .int x_10, .int x_11, .ref q_9, .int x_12, .ref q_10, .ref q_11, .int x_13, .ref q_12, .ref q_13, .int x_14, .int x_15, .ref q_14, .ref q_15, .ref q_16, .ref q_17, .int x_16, .long g_17, .long g_18, .int x_19, .int x_20, .int x_21, .int x_22, .ref q_18, .ref q_19, .int x_23, .int 1, .int x_25, .int 1, .ref q_20, .ref q_21, .int 0, .int 0, .ref q_22, .ref q_23, .ref q_24, .ref q_25, .int x_26, .int x_27, .int x_28])), (q_1, .inl (k 0, 27101, .inl (fun _ => 0)))] H := hP
    have hD : va_D A [(q_0, .inr (12, [.int 0, .int x_2, .ref q_1, .ref q_2, .ref q_3, .int x_3, .ref q_4, .ref q_5, .ref q_6, .ref q_7, .ref q_8, .int x_4, .int x_5, .int x_6, .int x_7, .long g_8, .int x_9, .int x_10, .int x_11, .ref q_9, .int x_12, .ref q_10, .ref q_11, .int x_13, .ref q_12, .ref q_13, .int x_14, .int x_15, .ref q_14, .ref q_15, .ref q_16, .ref q_17, .int x_16, .long g_17, .long g_18, .int x_19, .int x_20, .int x_21, .int x_22, .ref q_18, .ref q_19, .int x_23, .int 1, .int x_25, .int 1, .ref q_20, .ref q_21, .int 0, .int 0, .ref q_22, .ref q_23, .ref q_24, .ref q_25, .int x_26, .int x_27, .int x_28])), (q_1, .inl (k 0, 27101, .inl (fun _ => 0)))] := hD
    refine lv_aload_n hx hb dX12_join_251 rfl (lv_at hl 8 rfl) ?_
    refine lv_iload_n hx hb dX12_join_252 rfl (lv_at hl 7 rfl) ?_
    refine va_put (D := D) (ci := 12) (v := .int 0) (ty := .int) (C := RX12) (T := TX12) (N := 56) hx hb hts inX12 tyX12 tyX12_ok nmX12 hown hK hP hD hS 0 rfl rfl 43 (by decide) (hts _ kF_X12_518) (fun _ h9 => h9) rfl (by decide +kernel) rfl rfl (Nat.le_of_ble_eq_true rfl) dX12_join_253 (fun H locs hP hD hS => ?_)
    have hP : va_P D vwCl [(q_0, .inr (12, [.int 0, .int x_2, .ref q_1, .ref q_2, .ref q_3, .int x_3, .ref q_4, .ref q_5, .ref q_6, .ref q_7, .ref q_8, .int x_4, .int x_5, .int x_6, .int x_7, .long g_8, .int x_9, .int x_10, .int x_11, .ref q_9, .int x_12, .ref q_10, .ref q_11, .int x_13, .ref q_12, .ref q_13, .int x_14, .int x_15, .ref q_14, .ref q_15, .ref q_16, .ref q_17, .int x_16, .long g_17, .long g_18, .int x_19, .int x_20, .int x_21, .int x_22, .ref q_18, .ref q_19, .int x_23, .int 1, .int 0, .int 1, .ref q_20, .ref q_21, .int 0, .int 0, .ref q_22, .ref q_23, .ref q_24, .ref q_25, .int x_26, .int x_27, .int x_28])), (q_1, .inl (k 0, 27101, .inl (fun _ => 0)))] H := hP
    have hD : va_D A [(q_0, .inr (12, [.int 0, .int x_2, .ref q_1, .ref q_2, .ref q_3, .int x_3, .ref q_4, .ref q_5, .ref q_6, .ref q_7, .ref q_8, .int x_4, .int x_5, .int x_6, .int x_7, .long g_8, .int x_9, .int x_10, .int x_11, .ref q_9, .int x_12, .ref q_10, .ref q_11, .int x_13, .ref q_12, .ref q_13, .int x_14, .int x_15, .ref q_14, .ref q_15, .ref q_16, .ref q_17, .int x_16, .long g_17, .long g_18, .int x_19, .int x_20, .int x_21, .int x_22, .ref q_18, .ref q_19, .int x_23, .int 1, .int 0, .int 1, .ref q_20, .ref q_21, .int 0, .int 0, .ref q_22, .ref q_23, .ref q_24, .ref q_25, .int x_26, .int x_27, .int x_28])), (q_1, .inl (k 0, 27101, .inl (fun _ => 0)))] := hD
    refine lv_iload hx hb dX12_join_256 (lv_at hl 3 rfl) ?_
    exact z_iret C0 hr hlk rfl hK hP hD hS (1, fun _ => 0) (Or.inr (⟨rfl, rfl, c1⟩)) [] rfl rfl rfl dX12_join_258

set_option maxHeartbeats 4000000 in
set_option maxRecDepth 100000 in
theorem c_X11_joined_1 (l : Launch) (D : va_G) (k : Nat → ClassId) (q_0 : Nat) (q_1 : Nat) (q_2 : Nat) (q_3 : Nat) (q_4 : Nat) (q_5 : Nat) (q_6 : Nat) (q_7 : Nat) (q_8 : Nat) (q_9 : Nat) (q_10 : Nat) (q_11 : Nat) (q_12 : Nat) (q_13 : Nat) (q_14 : Nat) (x_0 : Int32) (x_1 : Int32) (x_2 : Int32) (x_3 : Int32) (x_4 : Int32) : zMi l yX11_joined cX11_joined 2 (some .int) ({ frames := 1, cells := 0, slots := 0, locals := 22 }) D k [.ref q_0, .int x_0] [(q_0, .inr (11, [.ref q_2, .ref q_3, .ref q_4, .ref q_5, .ref q_1, .int x_1])), (q_1, .inr (2, [.ref q_6, .ref q_7, .ref q_8, .int 0, .int (-1), .ref q_9, .ref q_10, .ref q_11, .int x_2, .int x_3, .int x_4, .ref q_12, .ref q_13, .ref q_14]))] (fun r u => u.1 = 0 ∧ r = (-1)) (fun u => []) := by
  refine zMi_of (own := RX11) (by decide +kernel) rfl (Nat.le_of_ble_eq_true rfl) ?_
  intro p e s m args below meth c A ls C0 hr hlk hin hP hD hS hA hK hN hl
  have hx := C0.1
  have hb := C0.2.1
  have hml := C0.2.2.1
  have hown := C0.2.2.2.1
  have hts := C0.2.2.2.2
  have hl : lv_has ls 2 [(0, .ref q_0), (1, .int x_0)] := hl
  have hP : va_P D vwCl [(q_0, .inr (11, [.ref q_2, .ref q_3, .ref q_4, .ref q_5, .ref q_1, .int x_1])), (q_1, .inr (2, [.ref q_6, .ref q_7, .ref q_8, .int 0, .int (-1), .ref q_9, .ref q_10, .ref q_11, .int x_2, .int x_3, .int x_4, .ref q_12, .ref q_13, .ref q_14]))] s.heap := hP
  refine lv_iload_n hx hb dX11_joined_0 rfl (lv_at hl 1 rfl) ?_
  refine lv_iconst (v := (-1)) hx hb dX11_joined_1 (by decide) ?_
  refine lv_icmp_ne (tgt := 13) hx hb dX11_joined_2 (by decide) (fun c1 => ?_) (fun c1 => ?_)
  · refine lv_iload_n hx hb dX11_joined_13 rfl (lv_at hl 1 rfl) ?_
    refine lv_iconst (v := 0) hx hb dX11_joined_14 (by decide) ?_
    refine lv_aload_n hx hb dX11_joined_15 rfl (lv_at hl 0 rfl) ?_
    refine va_get (D := D) (ci := 11) (v := .ref q_1) (C := RX11) (T := TX11) (N := 6) hx hb hts inX11 hown hK hP 0 rfl rfl 4 (by decide) (hts _ kF_X11_39) (fun _ h9 => h9) rfl dX11_joined_16 ?_
    refine va_get (D := D) (ci := 2) (v := .int 0) (C := RX2) (T := TX2) (N := 14) hx hb hts inX2 hown hK hP 1 rfl rfl 3 (by decide) (hts _ kF_X11_297) (fun _ h9 => h9) rfl dX11_joined_19 ?_
    refine lv_iconst (v := 1) hx hb dX11_joined_22 (by decide) ?_
    refine lv_isub hx hb dX11_joined_23 ?_
    refine lv_toc (v := (-1)) (by decide) ?_
    refine z_bi0 (z_runS (As := [.int x_0, .int 0, .int (-1)]) (rest := []) C0 (c_X11_isOutside_1 l D k x_0 0 (-1) _) okS_X11_isOutside kM_X11_47 rfl (z_p0 hK hN) rfl hl.1 rfl (Nat.le_of_ble_eq_true rfl) dX11_joined_24 rfl) hP hS hA (fun r2 u2 H locs hw2 hP hS => ?_)
    obtain ⟨i2, a2⟩ := u2
    dsimp only at hw2
    rcases hw2 with ⟨rfl, rfl, c2⟩ | ⟨rfl, rfl, c2⟩
    · refine lv_if_eq (tgt := 34) hx hb dX11_joined_27 (by decide) (fun c3 => absurd c3 (by decide)) (fun _ => ?_)
      refine lv_iconst (v := (-1)) hx hb dX11_joined_30 (by decide) ?_
      refine lv_goto (tgt := 43) hx hb dX11_joined_31 (by decide) ?_
      exact z_iret C0 hr hlk rfl hK hP hD hS (0, fun _ => 0) ⟨rfl, rfl⟩ [] rfl rfl rfl dX11_joined_43
    · exact (show False by have bA0 := Int32.le_toInt x_0; have bB0 := Int32.toInt_lt x_0; revert c1 c2; simp only [vp_in_iff, Int32.lt_iff_toInt_lt, Int32.le_iff_toInt_le, Int64.lt_iff_toInt_lt, Int64.le_iff_toInt_le, Int32.toInt_toInt64, ← Int32.toInt_inj, ← Int64.toInt_inj, Int32.reduceToInt, Int64.reduceToInt] <;> omega).elim
  · refine lv_aload_n hx hb dX11_joined_5 rfl (lv_at hl 0 rfl) ?_
    refine va_get (D := D) (ci := 11) (v := .ref q_1) (C := RX11) (T := TX11) (N := 6) hx hb hts inX11 hown hK hP 0 rfl rfl 4 (by decide) (hts _ kF_X11_39) (fun _ h9 => h9) rfl dX11_joined_6 ?_
    refine va_get (D := D) (ci := 2) (v := .int (-1)) (C := RX2) (T := TX2) (N := 14) hx hb hts inX2 hown hK hP 1 rfl rfl 4 (by decide) (hts _ kF_X11_294) (fun _ h9 => h9) rfl dX11_joined_9 ?_
    exact z_iret C0 hr hlk rfl hK hP hD hS (0, fun _ => 0) ⟨rfl, rfl⟩ [] rfl rfl rfl dX11_joined_12

set_option maxHeartbeats 4000000 in
set_option maxRecDepth 100000 in
theorem c_X12_joined_1 (l : Launch) (D : va_G) (k : Nat → ClassId) (q_0 : Nat) (q_1 : Nat) (q_2 : Nat) (q_3 : Nat) (q_4 : Nat) (q_5 : Nat) (q_6 : Nat) (q_7 : Nat) (q_8 : Nat) (q_9 : Nat) (q_10 : Nat) (q_11 : Nat) (q_12 : Nat) (q_13 : Nat) (q_14 : Nat) (q_15 : Nat) (q_16 : Nat) (q_17 : Nat) (q_18 : Nat) (q_19 : Nat) (q_20 : Nat) (q_21 : Nat) (q_22 : Nat) (q_23 : Nat) (q_24 : Nat) (q_25 : Nat) (x_0 : Int32) (x_1 : Int32) (x_2 : Int32) (x_3 : Int32) (x_4 : Int32) (x_5 : Int32) (x_6 : Int32) (x_7 : Int32) (g_8 : Int64) (x_9 : Int32) (x_10 : Int32) (x_11 : Int32) (x_12 : Int32) (x_13 : Int32) (x_14 : Int32) (x_15 : Int32) (x_16 : Int32) (g_17 : Int64) (g_18 : Int64) (x_19 : Int32) (x_20 : Int32) (x_21 : Int32) (x_22 : Int32) (x_23 : Int32) (x_24 : Int32) (x_25 : Int32) (x_26 : Int32) (x_27 : Int32) (x_28 : Int32) (x_29 : Int32) (x_30 : Int32) : zMi l yX12_joined cX12_joined 2 (some .int) ({ frames := 0, cells := 0, slots := 0, locals := 0 }) D k [.ref q_0, .int x_0] [(q_0, .inr (12, [.int x_1, .int x_2, .ref q_1, .ref q_2, .ref q_3, .int x_3, .ref q_4, .ref q_5, .ref q_6, .ref q_7, .ref q_8, .int x_4, .int x_5, .int x_6, .int x_7, .long g_8, .int x_9, .int x_10, .int x_11, .ref q_9, .int x_12, .ref q_10, .ref q_11, .int x_13, .ref q_12, .ref q_13, .int x_14, .int x_15, .ref q_14, .ref q_15, .ref q_16, .ref q_17, .int x_16, .long g_17, .long g_18, .int x_19, .int x_20, .int x_21, .int x_22, .ref q_18, .ref q_19, .int x_23, .int 0, .int x_24, .int x_25, .ref q_20, .ref q_21, .int x_26, .int x_27, .ref q_22, .ref q_23, .ref q_24, .ref q_25, .int x_28, .int x_29, .int x_30]))] (fun r u => u.1 = 0 ∧ r = (-1)) (fun u => []) := by
  refine zMi_of (own := RX12) (by decide +kernel) rfl (Nat.le_of_ble_eq_true rfl) ?_
  intro p e s m args below meth c A ls C0 hr hlk hin hP hD hS hA hK hN hl
  have hx := C0.1
  have hb := C0.2.1
  have hml := C0.2.2.1
  have hown := C0.2.2.2.1
  have hts := C0.2.2.2.2
  have hl : lv_has ls 2 [(0, .ref q_0), (1, .int x_0)] := hl
  have hP : va_P D vwCl [(q_0, .inr (12, [.int x_1, .int x_2, .ref q_1, .ref q_2, .ref q_3, .int x_3, .ref q_4, .ref q_5, .ref q_6, .ref q_7, .ref q_8, .int x_4, .int x_5, .int x_6, .int x_7, .long g_8, .int x_9, .int x_10, .int x_11, .ref q_9, .int x_12, .ref q_10, .ref q_11, .int x_13, .ref q_12, .ref q_13, .int x_14, .int x_15, .ref q_14, .ref q_15, .ref q_16, .ref q_17, .int x_16, .long g_17, .long g_18, .int x_19, .int x_20, .int x_21, .int x_22, .ref q_18, .ref q_19, .int x_23, .int 0, .int x_24, .int x_25, .ref q_20, .ref q_21, .int x_26, .int x_27, .ref q_22, .ref q_23, .ref q_24, .ref q_25, .int x_28, .int x_29, .int x_30]))] s.heap := hP
  refine lv_aload_n hx hb dX12_joined_0 rfl (lv_at hl 0 rfl) ?_
  refine lv_iconst (v := 0) hx hb dX12_joined_1 (by decide) ?_
  refine va_put (D := D) (ci := 12) (v := .int 0) (ty := .int) (C := RX12) (T := TX12) (N := 56) hx hb hts inX12 tyX12 tyX12_ok nmX12 hown hK hP hD hS 0 rfl rfl 0 (by decide) (hts _ kF_X12_92) (fun _ h9 => h9) rfl (by decide +kernel) rfl rfl (Nat.le_of_ble_eq_true rfl) dX12_joined_2 (fun H locs hP hD hS => ?_)
  have hP : va_P D vwCl [(q_0, .inr (12, [.int 0, .int x_2, .ref q_1, .ref q_2, .ref q_3, .int x_3, .ref q_4, .ref q_5, .ref q_6, .ref q_7, .ref q_8, .int x_4, .int x_5, .int x_6, .int x_7, .long g_8, .int x_9, .int x_10, .int x_11, .ref q_9, .int x_12, .ref q_10, .ref q_11, .int x_13, .ref q_12, .ref q_13, .int x_14, .int x_15, .ref q_14, .ref q_15, .ref q_16, .ref q_17, .int x_16, .long g_17, .long g_18, .int x_19, .int x_20, .int x_21, .int x_22, .ref q_18, .ref q_19, .int x_23, .int 0, .int x_24, .int x_25, .ref q_20, .ref q_21, .int x_26, .int x_27, .ref q_22, .ref q_23, .ref q_24, .ref q_25, .int x_28, .int x_29, .int x_30]))] H := hP
  have hD : va_D A [(q_0, .inr (12, [.int 0, .int x_2, .ref q_1, .ref q_2, .ref q_3, .int x_3, .ref q_4, .ref q_5, .ref q_6, .ref q_7, .ref q_8, .int x_4, .int x_5, .int x_6, .int x_7, .long g_8, .int x_9, .int x_10, .int x_11, .ref q_9, .int x_12, .ref q_10, .ref q_11, .int x_13, .ref q_12, .ref q_13, .int x_14, .int x_15, .ref q_14, .ref q_15, .ref q_16, .ref q_17, .int x_16, .long g_17, .long g_18, .int x_19, .int x_20, .int x_21, .int x_22, .ref q_18, .ref q_19, .int x_23, .int 0, .int x_24, .int x_25, .ref q_20, .ref q_21, .int x_26, .int x_27, .ref q_22, .ref q_23, .ref q_24, .ref q_25, .int x_28, .int x_29, .int x_30]))] := hD
  refine lv_aload_n hx hb dX12_joined_5 rfl (lv_at hl 0 rfl) ?_
  refine va_get (D := D) (ci := 12) (v := .int 0) (C := RX12) (T := TX12) (N := 56) hx hb hts inX12 hown hK hP 0 rfl rfl 42 (by decide) (hts _ kF_X12_515) (fun _ h9 => h9) rfl dX12_joined_6 ?_
  refine lv_if_ne (tgt := 16) hx hb dX12_joined_9 (by decide) (fun c1 => absurd (by decide) c1) (fun _ => ?_)
  refine lv_iconst (v := (-1)) hx hb dX12_joined_12 (by decide) ?_
  refine lv_goto (tgt := 54) hx hb dX12_joined_13 (by decide) ?_
  exact z_iret C0 hr hlk rfl hK hP hD hS (0, fun _ => 0) ⟨rfl, rfl⟩ [] rfl rfl rfl dX12_joined_54

set_option maxHeartbeats 4000000 in
set_option maxRecDepth 100000 in
theorem c_X2_likeOfRow_1 (l : Launch) (D : va_G) (k : Nat → ClassId) (q_0 : Nat) (q_1 : Nat) (q_2 : Nat) (q_3 : Nat) (q_4 : Nat) (q_5 : Nat) (q_6 : Nat) (q_7 : Nat) (q_8 : Nat) (q_9 : Nat) (q_10 : Nat) (q_11 : Nat) (q_12 : Nat) (q_13 : Nat) (q_14 : Nat) (q_15 : Nat) (q_16 : Nat) (q_17 : Nat) (q_18 : Nat) (x_0 : Int32) (x_1 : Int32) (x_2 : Int32) (x_3 : Int32) (x_4 : Int32) (x_5 : Int32) (x_6 : Int32) (x_7 : Int32) (x_8 : Int32) (x_9 : Int32) : zMi l yX2_likeOfRow cX2_likeOfRow 9 (some .int) ({ frames := 0, cells := 0, slots := 0, locals := 0 }) D k [.ref q_0, .int x_0, .int x_1] [(q_0, .inr (2, [.ref q_2, .ref q_1, .ref q_3, .int x_2, .int x_3, .ref q_4, .ref q_5, .ref q_6, .int x_4, .int x_5, .int x_6, .ref q_7, .ref q_8, .ref q_9])), (q_1, .inr (4, [.int x_7, .ref q_10, .int 0, .ref q_11, .ref q_12, .int x_8, .ref q_13, .ref q_14, .ref q_15, .int x_9, .ref q_16, .ref q_17, .ref q_18]))] (fun r u => (u.1 = 0 ∧ r = (-1) ∧ ((¬ x_0 = 0))) ∨ (u.1 = 1 ∧ r = 0 ∧ ((x_0 = 0)))) (fun u => [(q_0, .inr (2, [.ref q_2, .ref q_1, .ref q_3, .int x_2, .int x_3, .ref q_4, .ref q_5, .ref q_6, .int x_4, .int x_5, .int x_6, .ref q_7, .ref q_8, .ref q_9])), (q_1, .inr (4, [.int x_7, .ref q_10, .int 0, .ref q_11, .ref q_12, .int x_8, .ref q_13, .ref q_14, .ref q_15, .int x_9, .ref q_16, .ref q_17, .ref q_18]))]) := by
  refine zMi_of (own := RX2) (by decide +kernel) rfl (Nat.le_of_ble_eq_true rfl) ?_
  intro p e s m args below meth c A ls C0 hr hlk hin hP hD hS hA hK hN hl
  have hx := C0.1
  have hb := C0.2.1
  have hml := C0.2.2.1
  have hown := C0.2.2.2.1
  have hts := C0.2.2.2.2
  have hl : lv_has ls 9 [(0, .ref q_0), (1, .int x_0), (2, .int x_1)] := hl
  have hP : va_P D vwCl [(q_0, .inr (2, [.ref q_2, .ref q_1, .ref q_3, .int x_2, .int x_3, .ref q_4, .ref q_5, .ref q_6, .int x_4, .int x_5, .int x_6, .ref q_7, .ref q_8, .ref q_9])), (q_1, .inr (4, [.int x_7, .ref q_10, .int 0, .ref q_11, .ref q_12, .int x_8, .ref q_13, .ref q_14, .ref q_15, .int x_9, .ref q_16, .ref q_17, .ref q_18]))] s.heap := hP
  refine lv_iload_n hx hb dX2_likeOfRow_0 rfl (lv_at hl 1 rfl) ?_
  refine lv_istore_n (lv' := [(3, .int x_0), (0, .ref q_0), (1, .int x_0), (2, .int x_1)]) hx hb dX2_likeOfRow_1 rfl hl (by decide) rfl (fun ls hl => ?_)
  refine lv_iconst (v := 0) hx hb dX2_likeOfRow_2 (by decide) ?_
  refine lv_istore (lv' := [(4, .int 0), (3, .int x_0), (0, .ref q_0), (1, .int x_0), (2, .int x_1)]) hx hb dX2_likeOfRow_3 hl (by decide) rfl (fun ls hl => ?_)
  refine lv_iconst (v := 0) hx hb dX2_likeOfRow_5 (by decide) ?_
  refine lv_istore (lv' := [(5, .int 0), (4, .int 0), (3, .int x_0), (0, .ref q_0), (1, .int x_0), (2, .int x_1)]) hx hb dX2_likeOfRow_6 hl (by decide) rfl (fun ls hl => ?_)
  refine lv_iconst (v := 0) hx hb dX2_likeOfRow_8 (by decide) ?_
  refine lv_istore (lv' := [(6, .int 0), (5, .int 0), (4, .int 0), (3, .int x_0), (0, .ref q_0), (1, .int x_0), (2, .int x_1)]) hx hb dX2_likeOfRow_9 hl (by decide) rfl (fun ls hl => ?_)
  refine lv_iload hx hb dX2_likeOfRow_11 (lv_at hl 0 rfl) ?_
  refine lv_aload_n hx hb dX2_likeOfRow_13 rfl (lv_at hl 4 rfl) ?_
  refine va_get (D := D) (ci := 2) (v := .ref q_1) (C := RX2) (T := TX2) (N := 14) hx hb hts inX2 hown hK hP 0 rfl rfl 1 (by decide) (hts _ kF_X2_48) (fun _ h9 => h9) rfl dX2_likeOfRow_14 ?_
  refine va_get (D := D) (ci := 4) (v := .int 0) (C := RX4) (T := TX4) (N := 13) hx hb hts inX4 hown hK hP 1 rfl rfl 2 (by decide) (hts _ kF_X2_58) (fun _ h9 => h9) rfl dX2_likeOfRow_17 ?_
  refine lv_icmp_ge (tgt := 125) hx hb dX2_likeOfRow_20 (by decide) (fun _ => ?_) (fun c1 => absurd (by decide) c1)
  refine lv_iload_n hx hb dX2_likeOfRow_125 rfl (lv_at hl 3 rfl) ?_
  refine lv_if_ne (tgt := 134) hx hb dX2_likeOfRow_126 (by decide) (fun c2 => ?_) (fun c2 => ?_)
  · refine lv_iconst (v := (-1)) hx hb dX2_likeOfRow_134 (by decide) ?_
    exact z_iret C0 hr hlk rfl hK hP hD hS (0, fun _ => 0) (Or.inl ⟨rfl, rfl, c2⟩) [0, 1] rfl rfl rfl dX2_likeOfRow_135
  · refine lv_iload hx hb dX2_likeOfRow_129 (lv_at hl 1 rfl) ?_
    refine lv_goto (tgt := 135) hx hb dX2_likeOfRow_131 (by decide) ?_
    exact z_iret C0 hr hlk rfl hK hP hD hS (1, fun _ => 0) (Or.inr (⟨rfl, rfl, c2⟩)) [0, 1] rfl rfl rfl dX2_likeOfRow_135

set_option maxHeartbeats 4000000 in
set_option maxRecDepth 100000 in
theorem c_X11_judge_1 (l : Launch) (D : va_G) (k : Nat → ClassId) (q_0 : Nat) (q_1 : Nat) (q_2 : Nat) (q_3 : Nat) (q_4 : Nat) (q_5 : Nat) (q_6 : Nat) (q_7 : Nat) (q_8 : Nat) (q_9 : Nat) (q_10 : Nat) (q_11 : Nat) (q_12 : Nat) (q_13 : Nat) (q_14 : Nat) (q_15 : Nat) (q_16 : Nat) (q_17 : Nat) (q_18 : Nat) (q_19 : Nat) (q_20 : Nat) (q_21 : Nat) (q_22 : Nat) (q_23 : Nat) (x_0 : Int32) (x_1 : Int32) (x_2 : Int32) (x_3 : Int32) (x_4 : Int32) (x_5 : Int32) (x_6 : Int32) (x_7 : Int32) (x_8 : Int32) (x_9 : Int32) (x_10 : Int32) : zMi l yX11_judge cX11_judge 3 (some .int) ({ frames := 1, cells := 0, slots := 0, locals := 28 }) D k [.ref q_0, .int x_0, .int x_1] [(q_0, .inr (11, [.ref q_3, .ref q_4, .ref q_5, .ref q_6, .ref q_1, .int x_2])), (q_1, .inr (2, [.ref q_7, .ref q_2, .ref q_8, .int x_3, .int x_4, .ref q_9, .ref q_10, .ref q_11, .int x_5, .int x_6, .int x_7, .ref q_12, .ref q_13, .ref q_14])), (q_2, .inr (4, [.int x_8, .ref q_15, .int 0, .ref q_16, .ref q_17, .int x_9, .ref q_18, .ref q_19, .ref q_20, .int x_10, .ref q_21, .ref q_22, .ref q_23]))] (fun r u => (u.1 = 0 ∧ r = (-1) ∧ ((x_0 < 0) ∨ (¬ x_0 < 0 ∧ ((x_1 < 0) ∨ (¬ x_1 < 0 ∧ ¬ x_1 ≤ 8))) ∨ (¬ x_0 < 0 ∧ ((¬ x_1 < 0 ∧ x_1 ≤ 8)) ∧ ¬ x_0 = 0))) ∨ (u.1 = 1 ∧ r = 0 ∧ ((¬ x_0 < 0 ∧ ((¬ x_1 < 0 ∧ x_1 ≤ 8)) ∧ x_0 = 0)))) (fun u => []) := by
  refine zMi_of (own := RX11) (by decide +kernel) rfl (Nat.le_of_ble_eq_true rfl) ?_
  intro p e s m args below meth c A ls C0 hr hlk hin hP hD hS hA hK hN hl
  have hx := C0.1
  have hb := C0.2.1
  have hml := C0.2.2.1
  have hown := C0.2.2.2.1
  have hts := C0.2.2.2.2
  have hl : lv_has ls 3 [(0, .ref q_0), (1, .int x_0), (2, .int x_1)] := hl
  have hP : va_P D vwCl [(q_0, .inr (11, [.ref q_3, .ref q_4, .ref q_5, .ref q_6, .ref q_1, .int x_2])), (q_1, .inr (2, [.ref q_7, .ref q_2, .ref q_8, .int x_3, .int x_4, .ref q_9, .ref q_10, .ref q_11, .int x_5, .int x_6, .int x_7, .ref q_12, .ref q_13, .ref q_14])), (q_2, .inr (4, [.int x_8, .ref q_15, .int 0, .ref q_16, .ref q_17, .int x_9, .ref q_18, .ref q_19, .ref q_20, .int x_10, .ref q_21, .ref q_22, .ref q_23]))] s.heap := hP
  refine lv_iload_n hx hb dX11_judge_0 rfl (lv_at hl 1 rfl) ?_
  refine lv_if_lt (tgt := 14) hx hb dX11_judge_1 (by decide) (fun c1 => ?_) (fun c1 => ?_)
  · refine lv_iconst (v := (-1)) hx hb dX11_judge_14 (by decide) ?_
    exact z_iret C0 hr hlk rfl hK hP hD hS (0, fun _ => 0) (Or.inl ⟨rfl, rfl, (Or.inl c1)⟩) [] rfl rfl rfl dX11_judge_15
  · refine lv_iload_n hx hb dX11_judge_4 rfl (lv_at hl 2 rfl) ?_
    refine lv_iconst (v := 0) hx hb dX11_judge_5 (by decide) ?_
    refine lv_bipush (v := 8) hx hb dX11_judge_6 (by decide) ?_
    refine z_bi0 (z_runS (As := [.int x_1, .int 0, .int 8]) (rest := []) C0 (c_X11_isOutside_1 l D k x_1 0 8 _) okS_X11_isOutside kM_X11_47 rfl (z_p0 hK hN) rfl hl.1 rfl (Nat.le_of_ble_eq_true rfl) dX11_judge_8 rfl) hP hS hA (fun r2 u2 H locs hw2 hP hS => ?_)
    obtain ⟨i2, a2⟩ := u2
    dsimp only at hw2
    rcases hw2 with ⟨rfl, rfl, c2⟩ | ⟨rfl, rfl, c2⟩
    · refine lv_if_eq (tgt := 16) hx hb dX11_judge_11 (by decide) (fun c3 => absurd c3 (by decide)) (fun _ => ?_)
      refine lv_iconst (v := (-1)) hx hb dX11_judge_14 (by decide) ?_
      exact z_iret C0 hr hlk rfl hK hP hD hS (0, fun _ => 0) (Or.inl ⟨rfl, rfl, (Or.inr (Or.inl (⟨c1, c2⟩)))⟩) [] rfl rfl rfl dX11_judge_15
    · refine lv_if_eq (tgt := 16) hx hb dX11_judge_11 (by decide) (fun _ => ?_) (fun c4 => absurd (by decide) c4)
      refine lv_aload_n hx hb dX11_judge_16 rfl (lv_at hl 0 rfl) ?_
      refine va_get (D := D) (ci := 11) (v := .ref q_1) (C := RX11) (T := TX11) (N := 6) hx hb hts inX11 hown hK hP 0 rfl rfl 4 (by decide) (hts _ kF_X11_39) (fun _ h9 => h9) rfl dX11_judge_17 ?_
      refine lv_iload_n hx hb dX11_judge_20 rfl (lv_at hl 1 rfl) ?_
      refine lv_iload_n hx hb dX11_judge_21 rfl (lv_at hl 2 rfl) ?_
      refine z_bi (wr := [(q_0, .inr (11, [.ref q_3, .ref q_4, .ref q_5, .ref q_6, .ref q_1, .int x_2]))]) (z_runV (C := RX2) (As := [.int x_0, .int x_1]) (rest := []) C0 (c_X2_likeOfRow_1 l D k q_1 q_2 q_7 q_8 q_9 q_10 q_11 q_12 q_13 q_14 q_15 q_16 q_17 q_18 q_19 q_20 q_21 q_22 q_23 x_0 x_1 x_3 x_4 x_5 x_6 x_7 x_8 x_9 x_10 _) okV_X2_likeOfRow kM_X11_303 rfl (z_pV (q0 := 1) hK hN hP hD [1, 2] rfl rfl rfl rfl rfl) rfl hl.1 rfl (Nat.le_of_ble_eq_true rfl) dX11_judge_22 rfl) hP hD hS hA [1, 2] [0] rfl rfl rfl rfl (fun r5 u5 H locs hw5 hP hD hS => ?_)
      obtain ⟨i5, a5⟩ := u5
      dsimp only at hw5
      rcases hw5 with ⟨rfl, rfl, c5⟩ | ⟨rfl, rfl, c5⟩
      · have hP : va_P D vwCl [(q_0, .inr (11, [.ref q_3, .ref q_4, .ref q_5, .ref q_6, .ref q_1, .int x_2])), (q_1, .inr (2, [.ref q_7, .ref q_2, .ref q_8, .int x_3, .int x_4, .ref q_9, .ref q_10, .ref q_11, .int x_5, .int x_6, .int x_7, .ref q_12, .ref q_13, .ref q_14])), (q_2, .inr (4, [.int x_8, .ref q_15, .int 0, .ref q_16, .ref q_17, .int x_9, .ref q_18, .ref q_19, .ref q_20, .int x_10, .ref q_21, .ref q_22, .ref q_23]))] H := hP
        have hD : va_D A [(q_0, .inr (11, [.ref q_3, .ref q_4, .ref q_5, .ref q_6, .ref q_1, .int x_2])), (q_1, .inr (2, [.ref q_7, .ref q_2, .ref q_8, .int x_3, .int x_4, .ref q_9, .ref q_10, .ref q_11, .int x_5, .int x_6, .int x_7, .ref q_12, .ref q_13, .ref q_14])), (q_2, .inr (4, [.int x_8, .ref q_15, .int 0, .ref q_16, .ref q_17, .int x_9, .ref q_18, .ref q_19, .ref q_20, .int x_10, .ref q_21, .ref q_22, .ref q_23]))] := hD
        exact z_iret C0 hr hlk rfl hK hP hD hS (0, fun _ => 0) (Or.inl ⟨rfl, rfl, (Or.inr (Or.inr (⟨c1, c2, c5⟩)))⟩) [] rfl rfl rfl dX11_judge_25
      · have hP : va_P D vwCl [(q_0, .inr (11, [.ref q_3, .ref q_4, .ref q_5, .ref q_6, .ref q_1, .int x_2])), (q_1, .inr (2, [.ref q_7, .ref q_2, .ref q_8, .int x_3, .int x_4, .ref q_9, .ref q_10, .ref q_11, .int x_5, .int x_6, .int x_7, .ref q_12, .ref q_13, .ref q_14])), (q_2, .inr (4, [.int x_8, .ref q_15, .int 0, .ref q_16, .ref q_17, .int x_9, .ref q_18, .ref q_19, .ref q_20, .int x_10, .ref q_21, .ref q_22, .ref q_23]))] H := hP
        have hD : va_D A [(q_0, .inr (11, [.ref q_3, .ref q_4, .ref q_5, .ref q_6, .ref q_1, .int x_2])), (q_1, .inr (2, [.ref q_7, .ref q_2, .ref q_8, .int x_3, .int x_4, .ref q_9, .ref q_10, .ref q_11, .int x_5, .int x_6, .int x_7, .ref q_12, .ref q_13, .ref q_14])), (q_2, .inr (4, [.int x_8, .ref q_15, .int 0, .ref q_16, .ref q_17, .int x_9, .ref q_18, .ref q_19, .ref q_20, .int x_10, .ref q_21, .ref q_22, .ref q_23]))] := hD
        exact z_iret C0 hr hlk rfl hK hP hD hS (1, fun _ => 0) (Or.inr (⟨rfl, rfl, ⟨c1, c2, c5⟩⟩)) [] rfl rfl rfl dX11_judge_25

set_option maxHeartbeats 4000000 in
set_option maxRecDepth 100000 in
theorem c_X12_judge_1 (l : Launch) (D : va_G) (k : Nat → ClassId) (q_0 : Nat) (q_1 : Nat) (q_2 : Nat) (q_3 : Nat) (q_4 : Nat) (q_5 : Nat) (q_6 : Nat) (q_7 : Nat) (q_8 : Nat) (q_9 : Nat) (q_10 : Nat) (q_11 : Nat) (q_12 : Nat) (q_13 : Nat) (q_14 : Nat) (q_15 : Nat) (q_16 : Nat) (q_17 : Nat) (q_18 : Nat) (q_19 : Nat) (q_20 : Nat) (q_21 : Nat) (q_22 : Nat) (q_23 : Nat) (q_24 : Nat) (q_25 : Nat) (x_0 : Int32) (x_1 : Int32) (x_2 : Int32) (x_3 : Int32) (x_4 : Int32) (x_5 : Int32) (x_6 : Int32) (x_7 : Int32) (x_8 : Int32) (g_9 : Int64) (x_10 : Int32) (x_11 : Int32) (x_12 : Int32) (x_13 : Int32) (x_14 : Int32) (x_15 : Int32) (x_16 : Int32) (x_17 : Int32) (g_18 : Int64) (g_19 : Int64) (x_20 : Int32) (x_21 : Int32) (x_22 : Int32) (x_23 : Int32) (x_24 : Int32) (x_25 : Int32) (x_26 : Int32) (x_27 : Int32) (x_28 : Int32) (x_29 : Int32) (x_30 : Int32) (x_31 : Int32) : zMi l yX12_judge cX12_judge 6 (some .int) ({ frames := 1, cells := 0, slots := 0, locals := 25 }) D k [.ref q_0, .int x_0, .int x_1] [(q_0, .inr (12, [.int x_2, .int x_3, .ref q_1, .ref q_2, .ref q_3, .int x_4, .ref q_4, .ref q_5, .ref q_6, .ref q_7, .ref q_8, .int x_5, .int x_6, .int x_7, .int x_8, .long g_9, .int x_10, .int x_11, .int x_12, .ref q_9, .int x_13, .ref q_10, .ref q_11, .int x_14, .ref q_12, .ref q_13, .int x_15, .int x_16, .ref q_14, .ref q_15, .ref q_16, .ref q_17, .int x_17, .long g_18, .long g_19, .int x_20, .int x_21, .int x_22, .int x_23, .ref q_18, .ref q_19, .int x_24, .int x_25, .int x_26, .int x_27, .ref q_20, .ref q_21, .int 0, .int x_28, .ref q_22, .ref q_23, .ref q_24, .ref q_25, .int x_29, .int x_30, .int x_31])), (q_1, .inl (k 0, 27101, .inl (fun _ => 0)))] (fun r u => (u.1 = 0 ∧ r = (-1) ∧ (((((Int32.toInt64 x_0) < 0) ∨ (¬ (Int32.toInt64 x_0) < 0 ∧ (0 : Int64) < (Int32.toInt64 x_0)))) ∨ (((¬ (Int32.toInt64 x_0) < 0 ∧ ¬ (0 : Int64) < (Int32.toInt64 x_0))) ∧ (((Int32.toInt64 x_1) < 0) ∨ (¬ (Int32.toInt64 x_1) < 0 ∧ (8 : Int64) < (Int32.toInt64 x_1)))))) ∨ (u.1 = 1 ∧ r = 0 ∧ ((((¬ (Int32.toInt64 x_0) < 0 ∧ ¬ (0 : Int64) < (Int32.toInt64 x_0))) ∧ ((¬ (Int32.toInt64 x_1) < 0 ∧ ¬ (8 : Int64) < (Int32.toInt64 x_1))))))) (fun u => []) := by
  refine zMi_of (own := RX12) (by decide +kernel) rfl (Nat.le_of_ble_eq_true rfl) ?_
  intro p e s m args below meth c A ls C0 hr hlk hin hP hD hS hA hK hN hl
  have hx := C0.1
  have hb := C0.2.1
  have hml := C0.2.2.1
  have hown := C0.2.2.2.1
  have hts := C0.2.2.2.2
  have hl : lv_has ls 6 [(0, .ref q_0), (1, .int x_0), (2, .int x_1)] := hl
  have hP : va_P D vwCl [(q_0, .inr (12, [.int x_2, .int x_3, .ref q_1, .ref q_2, .ref q_3, .int x_4, .ref q_4, .ref q_5, .ref q_6, .ref q_7, .ref q_8, .int x_5, .int x_6, .int x_7, .int x_8, .long g_9, .int x_10, .int x_11, .int x_12, .ref q_9, .int x_13, .ref q_10, .ref q_11, .int x_14, .ref q_12, .ref q_13, .int x_15, .int x_16, .ref q_14, .ref q_15, .ref q_16, .ref q_17, .int x_17, .long g_18, .long g_19, .int x_20, .int x_21, .int x_22, .int x_23, .ref q_18, .ref q_19, .int x_24, .int x_25, .int x_26, .int x_27, .ref q_20, .ref q_21, .int 0, .int x_28, .ref q_22, .ref q_23, .ref q_24, .ref q_25, .int x_29, .int x_30, .int x_31])), (q_1, .inl (k 0, 27101, .inl (fun _ => 0)))] s.heap := hP
  refine lv_aload_n hx hb dX12_judge_0 rfl (lv_at hl 0 rfl) ?_
  refine lv_iconst (v := 0) hx hb dX12_judge_1 (by decide) ?_
  refine va_put (D := D) (ci := 12) (v := .int 0) (ty := .int) (C := RX12) (T := TX12) (N := 56) hx hb hts inX12 tyX12 tyX12_ok nmX12 hown hK hP hD hS 0 rfl rfl 0 (by decide) (hts _ kF_X12_92) (fun _ h9 => h9) rfl (by decide +kernel) rfl rfl (Nat.le_of_ble_eq_true rfl) dX12_judge_2 (fun H locs hP hD hS => ?_)
  have hP : va_P D vwCl [(q_0, .inr (12, [.int 0, .int x_3, .ref q_1, .ref q_2, .ref q_3, .int x_4, .ref q_4, .ref q_5, .ref q_6, .ref q_7, .ref q_8, .int x_5, .int x_6, .int x_7, .int x_8, .long g_9, .int x_10, .int x_11, .int x_12, .ref q_9, .int x_13, .ref q_10, .ref q_11, .int x_14, .ref q_12, .ref q_13, .int x_15, .int x_16, .ref q_14, .ref q_15, .ref q_16, .ref q_17, .int x_17, .long g_18, .long g_19, .int x_20, .int x_21, .int x_22, .int x_23, .ref q_18, .ref q_19, .int x_24, .int x_25, .int x_26, .int x_27, .ref q_20, .ref q_21, .int 0, .int x_28, .ref q_22, .ref q_23, .ref q_24, .ref q_25, .int x_29, .int x_30, .int x_31])), (q_1, .inl (k 0, 27101, .inl (fun _ => 0)))] H := hP
  have hD : va_D A [(q_0, .inr (12, [.int 0, .int x_3, .ref q_1, .ref q_2, .ref q_3, .int x_4, .ref q_4, .ref q_5, .ref q_6, .ref q_7, .ref q_8, .int x_5, .int x_6, .int x_7, .int x_8, .long g_9, .int x_10, .int x_11, .int x_12, .ref q_9, .int x_13, .ref q_10, .ref q_11, .int x_14, .ref q_12, .ref q_13, .int x_15, .int x_16, .ref q_14, .ref q_15, .ref q_16, .ref q_17, .int x_17, .long g_18, .long g_19, .int x_20, .int x_21, .int x_22, .int x_23, .ref q_18, .ref q_19, .int x_24, .int x_25, .int x_26, .int x_27, .ref q_20, .ref q_21, .int 0, .int x_28, .ref q_22, .ref q_23, .ref q_24, .ref q_25, .int x_29, .int x_30, .int x_31])), (q_1, .inl (k 0, 27101, .inl (fun _ => 0)))] := hD
  refine lv_iconst (v := 1) hx hb dX12_judge_5 (by decide) ?_
  refine lv_istore_n (lv' := [(3, .int 1), (0, .ref q_0), (1, .int x_0), (2, .int x_1)]) hx hb dX12_judge_6 rfl hl (by decide) rfl (fun ls hl => ?_)
  refine lv_iconst (v := 0) hx hb dX12_judge_7 (by decide) ?_
  refine lv_istore (lv' := [(4, .int 0), (3, .int 1), (0, .ref q_0), (1, .int x_0), (2, .int x_1)]) hx hb dX12_judge_8 hl (by decide) rfl (fun ls hl => ?_)
  refine lv_iload hx hb dX12_judge_10 (lv_at hl 0 rfl) ?_
  refine lv_aload_n hx hb dX12_judge_12 rfl (lv_at hl 2 rfl) ?_
  refine va_get (D := D) (ci := 12) (v := .ref q_1) (C := RX12) (T := TX12) (N := 56) hx hb hts inX12 hown hK hP 0 rfl rfl 2 (by decide) (hts _ kF_X12_7) (fun _ h9 => h9) rfl dX12_judge_13 ?_
  refine lv_bipush (v := 6) hx hb dX12_judge_16 (by decide) ?_
  refine va_iald hx hb hK hP 1 0 rfl rfl (by unfold vp_in; decide) dX12_judge_18 ?_
  refine lv_toc (v := 0) rfl ?_
  refine lv_icmp_ge (tgt := 33) hx hb dX12_judge_19 (by decide) (fun _ => ?_) (fun c1 => absurd (by decide) c1)
  refine lv_iload_n hx hb dX12_judge_33 rfl (lv_at hl 3 rfl) ?_
  refine lv_i2l (v := (Int32.toInt64 x_0)) hx hb dX12_judge_34 rfl ?_
  refine lv_lconst (v := 0) hx hb dX12_judge_35 (by decide) ?_
  refine lv_iload_n hx hb dX12_judge_36 rfl (lv_at hl 1 rfl) ?_
  refine lv_i2l (v := 1) hx hb dX12_judge_37 (by decide) ?_
  refine lv_lconst (v := 1) hx hb dX12_judge_38 (by decide) ?_
  refine lv_lsub hx hb dX12_judge_39 ?_
  refine lv_tocl (v := 0) (by decide) ?_
  refine z_bi0 (z_runS (As := [.long (Int32.toInt64 x_0), .long 0, .long 0]) (rest := []) C0 (c_X12_in_1 l D k (Int32.toInt64 x_0) 0 0 _) okS_X12_in kM_X12_100 rfl (z_p0 hK hN) rfl hl.1 rfl (Nat.le_of_ble_eq_true rfl) dX12_judge_40 rfl) hP hS hA (fun r2 u2 H locs hw2 hP hS => ?_)
  obtain ⟨i2, a2⟩ := u2
  dsimp only at hw2
  rcases hw2 with ⟨rfl, rfl, c2⟩ | ⟨rfl, rfl, c2⟩
  · refine lv_if_eq (tgt := 58) hx hb dX12_judge_43 (by decide) (fun _ => ?_) (fun c3 => absurd (by decide) c3)
    refine lv_iconst (v := (-1)) hx hb dX12_judge_58 (by decide) ?_
    exact z_iret C0 hr hlk rfl hK hP hD hS (0, fun _ => 0) (Or.inl ⟨rfl, rfl, (Or.inl c2)⟩) [] rfl rfl rfl dX12_judge_59
  · refine lv_if_eq (tgt := 58) hx hb dX12_judge_43 (by decide) (fun c4 => absurd c4 (by decide)) (fun _ => ?_)
    refine lv_iload_n hx hb dX12_judge_46 rfl (lv_at hl 4 rfl) ?_
    refine lv_i2l (v := (Int32.toInt64 x_1)) hx hb dX12_judge_47 rfl ?_
    refine lv_lconst (v := 0) hx hb dX12_judge_48 (by decide) ?_
    refine lv_ldc2 hx hb hown (hts _ kL_X12_507) dX12_judge_49 ?_
    refine z_bi0 (z_runS (As := [.long (Int32.toInt64 x_1), .long 0, .long 8]) (rest := []) C0 (c_X12_in_1 l D k (Int32.toInt64 x_1) 0 8 _) okS_X12_in kM_X12_100 rfl (z_p0 hK hN) rfl hl.1 rfl (Nat.le_of_ble_eq_true rfl) dX12_judge_52 rfl) hP hS hA (fun r5 u5 H locs hw5 hP hS => ?_)
    obtain ⟨i5, a5⟩ := u5
    dsimp only at hw5
    rcases hw5 with ⟨rfl, rfl, c5⟩ | ⟨rfl, rfl, c5⟩
    · refine lv_if_ne (tgt := 60) hx hb dX12_judge_55 (by decide) (fun c6 => absurd (by decide) c6) (fun _ => ?_)
      refine lv_iconst (v := (-1)) hx hb dX12_judge_58 (by decide) ?_
      exact z_iret C0 hr hlk rfl hK hP hD hS (0, fun _ => 0) (Or.inl ⟨rfl, rfl, (Or.inr (⟨c2, c5⟩))⟩) [] rfl rfl rfl dX12_judge_59
    · refine lv_if_ne (tgt := 60) hx hb dX12_judge_55 (by decide) (fun _ => ?_) (fun c7 => absurd c7 (by decide))
      refine lv_iload_n hx hb dX12_judge_60 rfl (lv_at hl 3 rfl) ?_
      refine lv_istore (lv' := [(4, .int x_0), (3, .int 1), (0, .ref q_0), (1, .int x_0), (2, .int x_1)]) hx hb dX12_judge_61 hl (by decide) rfl (fun ls hl => ?_)
      refine lv_iconst (v := 0) hx hb dX12_judge_63 (by decide) ?_
      refine lv_istore (lv' := [(5, .int 0), (4, .int x_0), (3, .int 1), (0, .ref q_0), (1, .int x_0), (2, .int x_1)]) hx hb dX12_judge_64 hl (by decide) rfl (fun ls hl => ?_)
      refine lv_iload hx hb dX12_judge_66 (lv_at hl 0 rfl) ?_
      refine lv_aload_n hx hb dX12_judge_68 rfl (lv_at hl 3 rfl) ?_
      refine va_get (D := D) (ci := 12) (v := .ref q_1) (C := RX12) (T := TX12) (N := 56) hx hb hts inX12 hown hK hP 0 rfl rfl 2 (by decide) (hts _ kF_X12_7) (fun _ h9 => h9) rfl dX12_judge_69 ?_
      refine lv_bipush (v := 6) hx hb dX12_judge_72 (by decide) ?_
      refine va_iald hx hb hK hP 1 0 rfl rfl (by unfold vp_in; decide) dX12_judge_74 ?_
      refine lv_toc (v := 0) rfl ?_
      refine lv_icmp_ge (tgt := 105) hx hb dX12_judge_75 (by decide) (fun _ => ?_) (fun c8 => absurd (by decide) c8)
      refine lv_aload_n hx hb dX12_judge_105 rfl (lv_at hl 3 rfl) ?_
      refine lv_iload_n hx hb dX12_judge_106 rfl (lv_at hl 5 rfl) ?_
      refine z_bi (wr := []) (z_runV (C := RX12) (As := [.int x_1]) (rest := []) C0 (c_X12_isJoin_1 l D k q_0 q_1 q_2 q_3 q_4 q_5 q_6 q_7 q_8 q_9 q_10 q_11 q_12 q_13 q_14 q_15 q_16 q_17 q_18 q_19 q_20 q_21 q_22 q_23 q_24 q_25 x_1 0 x_3 x_4 x_5 x_6 x_7 x_8 g_9 x_10 x_11 x_12 x_13 x_14 x_15 x_16 x_17 g_18 g_19 x_20 x_21 x_22 x_23 x_24 x_25 x_26 x_27 0 x_28 x_29 x_30 x_31 _) okV_X12_isJoin kM_X12_509 rfl (z_pV (q0 := 0) hK hN hP hD [0, 1] rfl rfl rfl rfl rfl) rfl hl.1 rfl (Nat.le_of_ble_eq_true rfl) dX12_judge_107 rfl) hP hD hS hA [0, 1] [] rfl rfl rfl rfl (fun r9 u9 H locs hw9 hP hD hS => ?_)
      obtain ⟨i9, a9⟩ := u9
      dsimp only at hw9
      obtain ⟨rfl, rfl⟩ := hw9
      have hP : va_P D vwCl [(q_0, .inr (12, [.int 0, .int x_3, .ref q_1, .ref q_2, .ref q_3, .int x_4, .ref q_4, .ref q_5, .ref q_6, .ref q_7, .ref q_8, .int x_5, .int x_6, .int x_7, .int x_8, .long g_9, .int x_10, .int x_11, .int x_12, .ref q_9, .int x_13, .ref q_10, .ref q_11, .int x_14, .ref q_12, .ref q_13, .int x_15, .int x_16, .ref q_14, .ref q_15, .ref q_16, .ref q_17, .int x_17, .long g_18, .long g_19, .int x_20, .int x_21, .int x_22, .int x_23, .ref q_18, .ref q_19, .int x_24, .int x_25, .int x_26, .int x_27, .ref q_20, .ref q_21, .int 0, .int 0, .ref q_22, .ref q_23, .ref q_24, .ref q_25, .int x_29, .int x_30, .int x_31])), (q_1, .inl (k 0, 27101, .inl (fun _ => 0)))] H := hP
      have hD : va_D A [(q_0, .inr (12, [.int 0, .int x_3, .ref q_1, .ref q_2, .ref q_3, .int x_4, .ref q_4, .ref q_5, .ref q_6, .ref q_7, .ref q_8, .int x_5, .int x_6, .int x_7, .int x_8, .long g_9, .int x_10, .int x_11, .int x_12, .ref q_9, .int x_13, .ref q_10, .ref q_11, .int x_14, .ref q_12, .ref q_13, .int x_15, .int x_16, .ref q_14, .ref q_15, .ref q_16, .ref q_17, .int x_17, .long g_18, .long g_19, .int x_20, .int x_21, .int x_22, .int x_23, .ref q_18, .ref q_19, .int x_24, .int x_25, .int x_26, .int x_27, .ref q_20, .ref q_21, .int 0, .int 0, .ref q_22, .ref q_23, .ref q_24, .ref q_25, .int x_29, .int x_30, .int x_31])), (q_1, .inl (k 0, 27101, .inl (fun _ => 0)))] := hD
      refine lv_if_eq (tgt := 120) hx hb dX12_judge_110 (by decide) (fun c10 => absurd c10 (by decide)) (fun _ => ?_)
      refine lv_aload_n hx hb dX12_judge_113 rfl (lv_at hl 3 rfl) ?_
      refine va_get (D := D) (ci := 12) (v := .int 0) (C := RX12) (T := TX12) (N := 56) hx hb hts inX12 hown hK hP 0 rfl rfl 47 (by decide) (hts _ kF_X12_498) (fun _ h9 => h9) rfl dX12_judge_114 ?_
      refine lv_goto (tgt := 121) hx hb dX12_judge_117 (by decide) ?_
      exact z_iret C0 hr hlk rfl hK hP hD hS (1, fun _ => 0) (Or.inr (⟨rfl, rfl, ⟨c2, c5⟩⟩)) [] rfl rfl rfl dX12_judge_121

set_option maxHeartbeats 4000000 in
set_option maxRecDepth 100000 in
theorem c_X1_noteKinds_1 (l : Launch) (D : va_G) (k : Nat → ClassId) (q_0 : Nat) (q_1 : Nat) (q_2 : Nat) (q_3 : Nat) (q_4 : Nat) (q_5 : Nat) (q_6 : Nat) (q_7 : Nat) (q_8 : Nat) (q_9 : Nat) (q_10 : Nat) (q_11 : Nat) (q_12 : Nat) (q_13 : Nat) (q_14 : Nat) (q_15 : Nat) (q_16 : Nat) (q_17 : Nat) (q_18 : Nat) (q_19 : Nat) (q_20 : Nat) (q_21 : Nat) (q_22 : Nat) (q_23 : Nat) (q_24 : Nat) (q_25 : Nat) (q_26 : Nat) (x_0 : Int32) (x_1 : Int32) (x_2 : Int32) (x_3 : Int32) (x_4 : Int32) (x_5 : Int32) (x_6 : Int32) (x_7 : Int32) (x_8 : Int32) (x_9 : Int32) (x_10 : Int32) (x_11 : Int32) (x_12 : Int32) (x_13 : Int32) : zMv l yX1_noteKinds cX1_noteKinds 3 none ({ frames := 0, cells := 0, slots := 0, locals := 0 }) D k [.ref q_0, .int x_0] [(q_0, .inr (1, [.ref q_1, .ref q_3, .ref q_4, .ref q_5, .ref q_6, .ref q_7, .ref q_8, .ref q_9, .int x_1, .int x_2, .int x_3, .int x_4, .int x_5, .int x_6, .int x_7, .int x_8, .int x_9, .int x_10, .int x_11])), (q_1, .inr (3, [.ref q_10, .ref q_11, .ref q_2, .ref q_12, .ref q_13, .ref q_14])), (q_2, .inr (5, [.int 0, .ref q_15, .ref q_16, .ref q_17, .ref q_18, .ref q_19, .ref q_20, .ref q_21, .ref q_22, .ref q_23, .ref q_24, .ref q_25, .ref q_26, .int x_12, .int x_13]))] (fun u => u.1 = 0) (fun u => [(q_0, .inr (1, [.ref q_1, .ref q_3, .ref q_4, .ref q_5, .ref q_6, .ref q_7, .ref q_8, .ref q_9, .int x_1, .int x_2, .int x_3, .int x_4, .int x_5, .int x_6, .int x_7, .int x_8, .int x_9, .int x_10, .int x_11])), (q_1, .inr (3, [.ref q_10, .ref q_11, .ref q_2, .ref q_12, .ref q_13, .ref q_14])), (q_2, .inr (5, [.int 0, .ref q_15, .ref q_16, .ref q_17, .ref q_18, .ref q_19, .ref q_20, .ref q_21, .ref q_22, .ref q_23, .ref q_24, .ref q_25, .ref q_26, .int x_12, .int x_13]))]) := by
  refine zMv_of (own := RX1) (by decide +kernel) rfl (Nat.le_of_ble_eq_true rfl) ?_
  intro p e s m args below meth c A ls C0 hr hlk hin hP hD hS hA hK hN hl
  have hx := C0.1
  have hb := C0.2.1
  have hml := C0.2.2.1
  have hown := C0.2.2.2.1
  have hts := C0.2.2.2.2
  have hl : lv_has ls 3 [(0, .ref q_0), (1, .int x_0)] := hl
  have hP : va_P D vwCl [(q_0, .inr (1, [.ref q_1, .ref q_3, .ref q_4, .ref q_5, .ref q_6, .ref q_7, .ref q_8, .ref q_9, .int x_1, .int x_2, .int x_3, .int x_4, .int x_5, .int x_6, .int x_7, .int x_8, .int x_9, .int x_10, .int x_11])), (q_1, .inr (3, [.ref q_10, .ref q_11, .ref q_2, .ref q_12, .ref q_13, .ref q_14])), (q_2, .inr (5, [.int 0, .ref q_15, .ref q_16, .ref q_17, .ref q_18, .ref q_19, .ref q_20, .ref q_21, .ref q_22, .ref q_23, .ref q_24, .ref q_25, .ref q_26, .int x_12, .int x_13]))] s.heap := hP
  refine lv_iconst (v := 0) hx hb dX1_noteKinds_0 (by decide) ?_
  refine lv_istore_n (lv' := [(2, .int 0), (0, .ref q_0), (1, .int x_0)]) hx hb dX1_noteKinds_1 rfl hl (by decide) rfl (fun ls hl => ?_)
  refine lv_iload_n hx hb dX1_noteKinds_2 rfl (lv_at hl 0 rfl) ?_
  refine lv_aload_n hx hb dX1_noteKinds_3 rfl (lv_at hl 1 rfl) ?_
  refine va_get (D := D) (ci := 1) (v := .ref q_1) (C := RX1) (T := TX1) (N := 19) hx hb hts inX1 hown hK hP 0 rfl rfl 0 (by decide) (hts _ kF_X1_34) (fun _ h9 => h9) rfl dX1_noteKinds_4 ?_
  refine va_get (D := D) (ci := 3) (v := .ref q_2) (C := RX3) (T := TX3) (N := 6) hx hb hts inX3 hown hK hP 1 rfl rfl 2 (by decide) (hts _ kF_X1_38) (fun _ h9 => h9) rfl dX1_noteKinds_7 ?_
  refine va_get (D := D) (ci := 5) (v := .int 0) (C := RX5) (T := TX5) (N := 15) hx hb hts inX5 hown hK hP 2 rfl rfl 0 (by decide) (hts _ kF_X1_196) (fun _ h9 => h9) rfl dX1_noteKinds_10 ?_
  refine lv_icmp_ge (tgt := 53) hx hb dX1_noteKinds_13 (by decide) (fun _ => ?_) (fun c1 => absurd (by decide) c1)
  exact z_vret C0 hr hlk hK hP hD hS (0, fun _ => 0) rfl [0, 1, 2] rfl rfl rfl dX1_noteKinds_53

set_option maxHeartbeats 4000000 in
set_option maxRecDepth 100000 in
theorem c_X11_cannot_1 (l : Launch) (D : va_G) (k : Nat → ClassId) (q_0 : Nat) (q_1 : Nat) (q_2 : Nat) (q_3 : Nat) (q_4 : Nat) (q_5 : Nat) (q_6 : Nat) (q_7 : Nat) (q_8 : Nat) (q_9 : Nat) (q_10 : Nat) (q_11 : Nat) (q_12 : Nat) (q_13 : Nat) (q_14 : Nat) (q_15 : Nat) (q_16 : Nat) (q_17 : Nat) (q_18 : Nat) (q_19 : Nat) (q_20 : Nat) (q_21 : Nat) (q_22 : Nat) (q_23 : Nat) (q_24 : Nat) (q_25 : Nat) (q_26 : Nat) (q_27 : Nat) (q_28 : Nat) (q_29 : Nat) (q_30 : Nat) (x_0 : Int32) (x_1 : Int32) (x_2 : Int32) (x_3 : Int32) (x_4 : Int32) (x_5 : Int32) (x_6 : Int32) (x_7 : Int32) (x_8 : Int32) (x_9 : Int32) (x_10 : Int32) (x_11 : Int32) (x_12 : Int32) (x_13 : Int32) (x_14 : Int32) (x_15 : Int32) (x_16 : Int32) (x_17 : Int32) : zMi l yX11_cannot cX11_cannot 7 (some .int) ({ frames := 1, cells := 0, slots := 0, locals := 22 }) D k [.ref q_0, .int x_0, .int x_1, .int x_2, .int x_3] [(q_0, .inr (11, [.ref q_2, .ref q_4, .ref q_5, .ref q_1, .ref q_6, .int x_4])), (q_1, .inr (1, [.ref q_2, .ref q_7, .ref q_8, .ref q_9, .ref q_10, .ref q_11, .ref q_12, .ref q_13, .int x_5, .int x_6, .int x_7, .int x_8, .int x_9, .int x_10, .int x_11, .int x_12, .int x_13, .int x_14, .int x_15])), (q_2, .inr (3, [.ref q_14, .ref q_15, .ref q_3, .ref q_16, .ref q_17, .ref q_18])), (q_3, .inr (5, [.int 0, .ref q_19, .ref q_20, .ref q_21, .ref q_22, .ref q_23, .ref q_24, .ref q_25, .ref q_26, .ref q_27, .ref q_28, .ref q_29, .ref q_30, .int x_16, .int x_17]))] (fun r u => (u.1 = 0 ∧ r = (-1) ∧ ((((x_0 < 0) ∨ (¬ x_0 < 0 ∧ (800 : Int32) ≤ x_1) ∨ (¬ x_0 < 0 ∧ ¬ (800 : Int32) ≤ x_1 ∧ ¬ x_0 ≤ x_1))) ∨ (((¬ x_0 < 0 ∧ ¬ (800 : Int32) ≤ x_1 ∧ x_0 ≤ x_1)) ∧ ((x_2 < 0) ∨ (¬ x_2 < 0 ∧ ¬ x_2 < 400))) ∨ (((¬ x_0 < 0 ∧ ¬ (800 : Int32) ≤ x_1 ∧ x_0 ≤ x_1)) ∧ ((¬ x_2 < 0 ∧ x_2 < 400)) ∧ ¬ x_3 = (-1)))) ∨ (u.1 = 1 ∧ r = 0 ∧ ((((¬ x_0 < 0 ∧ ¬ (800 : Int32) ≤ x_1 ∧ x_0 ≤ x_1)) ∧ ((¬ x_2 < 0 ∧ x_2 < 400)) ∧ x_3 = (-1))))) (fun u => []) := by
  refine zMi_of (own := RX11) (by decide +kernel) rfl (Nat.le_of_ble_eq_true rfl) ?_
  intro p e s m args below meth c A ls C0 hr hlk hin hP hD hS hA hK hN hl
  have hx := C0.1
  have hb := C0.2.1
  have hml := C0.2.2.1
  have hown := C0.2.2.2.1
  have hts := C0.2.2.2.2
  have hl : lv_has ls 7 [(0, .ref q_0), (1, .int x_0), (2, .int x_1), (3, .int x_2), (4, .int x_3)] := hl
  have hP : va_P D vwCl [(q_0, .inr (11, [.ref q_2, .ref q_4, .ref q_5, .ref q_1, .ref q_6, .int x_4])), (q_1, .inr (1, [.ref q_2, .ref q_7, .ref q_8, .ref q_9, .ref q_10, .ref q_11, .ref q_12, .ref q_13, .int x_5, .int x_6, .int x_7, .int x_8, .int x_9, .int x_10, .int x_11, .int x_12, .int x_13, .int x_14, .int x_15])), (q_2, .inr (3, [.ref q_14, .ref q_15, .ref q_3, .ref q_16, .ref q_17, .ref q_18])), (q_3, .inr (5, [.int 0, .ref q_19, .ref q_20, .ref q_21, .ref q_22, .ref q_23, .ref q_24, .ref q_25, .ref q_26, .ref q_27, .ref q_28, .ref q_29, .ref q_30, .int x_16, .int x_17]))] s.heap := hP
  refine lv_iload_n hx hb dX11_cannot_0 rfl (lv_at hl 1 rfl) ?_
  refine lv_iload_n hx hb dX11_cannot_1 rfl (lv_at hl 2 rfl) ?_
  refine z_bi0 (z_runS (As := [.int x_0, .int x_1]) (rest := []) C0 (c_X11_areNoHalves_1 l D k x_0 x_1 _) okS_X11_areNoHalves kM_X11_210 rfl (z_p0 hK hN) rfl hl.1 rfl (Nat.le_of_ble_eq_true rfl) dX11_cannot_2 rfl) hP hS hA (fun r1 u1 H locs hw1 hP hS => ?_)
  obtain ⟨i1, a1⟩ := u1
  dsimp only at hw1
  rcases hw1 with ⟨rfl, rfl, c1⟩ | ⟨rfl, rfl, c1⟩
  · refine lv_if_ne (tgt := 15) hx hb dX11_cannot_5 (by decide) (fun _ => ?_) (fun c2 => absurd c2 (by decide))
    refine lv_iconst (v := (-1)) hx hb dX11_cannot_15 (by decide) ?_
    exact z_iret C0 hr hlk rfl hK hP hD hS (0, fun _ => 0) (Or.inl ⟨rfl, rfl, (Or.inl c1)⟩) [] rfl rfl rfl dX11_cannot_16
  · refine lv_if_ne (tgt := 15) hx hb dX11_cannot_5 (by decide) (fun c3 => absurd (by decide) c3) (fun _ => ?_)
    refine lv_iload_n hx hb dX11_cannot_8 rfl (lv_at hl 3 rfl) ?_
    refine z_bi0 (z_runS (As := [.int x_2]) (rest := []) C0 (c_X11_isNoDay_1 l D k x_2 _) okS_X11_isNoDay kM_X11_72 rfl (z_p0 hK hN) rfl hl.1 rfl (Nat.le_of_ble_eq_true rfl) dX11_cannot_9 rfl) hP hS hA (fun r4 u4 H locs hw4 hP hS => ?_)
    obtain ⟨i4, a4⟩ := u4
    dsimp only at hw4
    rcases hw4 with ⟨rfl, rfl, c4⟩ | ⟨rfl, rfl, c4⟩
    · refine lv_if_eq (tgt := 17) hx hb dX11_cannot_12 (by decide) (fun c5 => absurd c5 (by decide)) (fun _ => ?_)
      refine lv_iconst (v := (-1)) hx hb dX11_cannot_15 (by decide) ?_
      exact z_iret C0 hr hlk rfl hK hP hD hS (0, fun _ => 0) (Or.inl ⟨rfl, rfl, (Or.inr (Or.inl (⟨c1, c4⟩)))⟩) [] rfl rfl rfl dX11_cannot_16
    · refine lv_if_eq (tgt := 17) hx hb dX11_cannot_12 (by decide) (fun _ => ?_) (fun c6 => absurd (by decide) c6)
      refine lv_aload_n hx hb dX11_cannot_17 rfl (lv_at hl 0 rfl) ?_
      refine va_get (D := D) (ci := 11) (v := .ref q_1) (C := RX11) (T := TX11) (N := 6) hx hb hts inX11 hown hK hP 0 rfl rfl 3 (by decide) (hts _ kF_X11_32) (fun _ h9 => h9) rfl dX11_cannot_18 ?_
      refine lv_iload_n hx hb dX11_cannot_21 rfl (lv_at hl 3 rfl) ?_
      refine z_bv (wr := [(q_0, .inr (11, [.ref q_2, .ref q_4, .ref q_5, .ref q_1, .ref q_6, .int x_4]))]) (z_runV (C := RX1) (As := [.int x_2]) (rest := []) C0 (c_X1_noteKinds_1 l D k q_1 q_2 q_3 q_7 q_8 q_9 q_10 q_11 q_12 q_13 q_14 q_15 q_16 q_17 q_18 q_19 q_20 q_21 q_22 q_23 q_24 q_25 q_26 q_27 q_28 q_29 q_30 x_2 x_5 x_6 x_7 x_8 x_9 x_10 x_11 x_12 x_13 x_14 x_15 x_16 x_17 _) okV_X1_noteKinds kM_X11_306 rfl (z_pV (q0 := 1) hK hN hP hD [1, 2, 3] rfl rfl rfl rfl rfl) rfl hl.1 rfl (Nat.le_of_ble_eq_true rfl) dX11_cannot_22 rfl) hP hD hS hA [1, 2, 3] [0] rfl rfl rfl rfl (fun u7 H locs hw7 hP hD hS => ?_)
      obtain ⟨i7, a7⟩ := u7
      dsimp only at hw7
      obtain rfl := hw7
      have hP : va_P D vwCl [(q_0, .inr (11, [.ref q_2, .ref q_4, .ref q_5, .ref q_1, .ref q_6, .int x_4])), (q_1, .inr (1, [.ref q_2, .ref q_7, .ref q_8, .ref q_9, .ref q_10, .ref q_11, .ref q_12, .ref q_13, .int x_5, .int x_6, .int x_7, .int x_8, .int x_9, .int x_10, .int x_11, .int x_12, .int x_13, .int x_14, .int x_15])), (q_2, .inr (3, [.ref q_14, .ref q_15, .ref q_3, .ref q_16, .ref q_17, .ref q_18])), (q_3, .inr (5, [.int 0, .ref q_19, .ref q_20, .ref q_21, .ref q_22, .ref q_23, .ref q_24, .ref q_25, .ref q_26, .ref q_27, .ref q_28, .ref q_29, .ref q_30, .int x_16, .int x_17]))] H := hP
      have hD : va_D A [(q_0, .inr (11, [.ref q_2, .ref q_4, .ref q_5, .ref q_1, .ref q_6, .int x_4])), (q_1, .inr (1, [.ref q_2, .ref q_7, .ref q_8, .ref q_9, .ref q_10, .ref q_11, .ref q_12, .ref q_13, .int x_5, .int x_6, .int x_7, .int x_8, .int x_9, .int x_10, .int x_11, .int x_12, .int x_13, .int x_14, .int x_15])), (q_2, .inr (3, [.ref q_14, .ref q_15, .ref q_3, .ref q_16, .ref q_17, .ref q_18])), (q_3, .inr (5, [.int 0, .ref q_19, .ref q_20, .ref q_21, .ref q_22, .ref q_23, .ref q_24, .ref q_25, .ref q_26, .ref q_27, .ref q_28, .ref q_29, .ref q_30, .int x_16, .int x_17]))] := hD
      refine lv_iconst (v := 0) hx hb dX11_cannot_25 (by decide) ?_
      refine lv_istore (lv' := [(5, .int 0), (0, .ref q_0), (1, .int x_0), (2, .int x_1), (3, .int x_2), (4, .int x_3)]) hx hb dX11_cannot_26 hl (by decide) rfl (fun ls hl => ?_)
      refine lv_iconst (v := 0) hx hb dX11_cannot_28 (by decide) ?_
      refine lv_istore (lv' := [(6, .int 0), (5, .int 0), (0, .ref q_0), (1, .int x_0), (2, .int x_1), (3, .int x_2), (4, .int x_3)]) hx hb dX11_cannot_29 hl (by decide) rfl (fun ls hl => ?_)
      refine lv_iload hx hb dX11_cannot_31 (lv_at hl 0 rfl) ?_
      refine lv_aload_n hx hb dX11_cannot_33 rfl (lv_at hl 2 rfl) ?_
      refine va_get (D := D) (ci := 11) (v := .ref q_2) (C := RX11) (T := TX11) (N := 6) hx hb hts inX11 hown hK hP 0 rfl rfl 0 (by decide) (hts _ kF_X11_12) (fun _ h9 => h9) rfl dX11_cannot_34 ?_
      refine va_get (D := D) (ci := 3) (v := .ref q_3) (C := RX3) (T := TX3) (N := 6) hx hb hts inX3 hown hK hP 2 rfl rfl 2 (by decide) (hts _ kF_X11_137) (fun _ h9 => h9) rfl dX11_cannot_37 ?_
      refine va_get (D := D) (ci := 5) (v := .int 0) (C := RX5) (T := TX5) (N := 15) hx hb hts inX5 hown hK hP 3 rfl rfl 0 (by decide) (hts _ kF_X11_141) (fun _ h9 => h9) rfl dX11_cannot_40 ?_
      refine lv_icmp_ge (tgt := 98) hx hb dX11_cannot_43 (by decide) (fun _ => ?_) (fun c8 => absurd (by decide) c8)
      refine lv_iload hx hb dX11_cannot_98 (lv_at hl 6 rfl) ?_
      refine lv_iconst (v := (-1)) hx hb dX11_cannot_100 (by decide) ?_
      refine lv_icmp_ne (tgt := 109) hx hb dX11_cannot_101 (by decide) (fun c9 => ?_) (fun c9 => ?_)
      · refine lv_iconst (v := (-1)) hx hb dX11_cannot_109 (by decide) ?_
        exact z_iret C0 hr hlk rfl hK hP hD hS (0, fun _ => 0) (Or.inl ⟨rfl, rfl, (Or.inr (Or.inr (⟨c1, c4, c9⟩)))⟩) [] rfl rfl rfl dX11_cannot_110
      · refine lv_iload hx hb dX11_cannot_104 (lv_at hl 1 rfl) ?_
        refine lv_goto (tgt := 110) hx hb dX11_cannot_106 (by decide) ?_
        exact z_iret C0 hr hlk rfl hK hP hD hS (1, fun _ => 0) (Or.inr (⟨rfl, rfl, ⟨c1, c4, c9⟩⟩)) [] rfl rfl rfl dX11_cannot_110

set_option maxHeartbeats 4000000 in
set_option maxRecDepth 100000 in
theorem c_X12_findKinds_1 (l : Launch) (D : va_G) (k : Nat → ClassId) (q_0 : Nat) (q_1 : Nat) (q_2 : Nat) (q_3 : Nat) (q_4 : Nat) (q_5 : Nat) (q_6 : Nat) (q_7 : Nat) (q_8 : Nat) (q_9 : Nat) (q_10 : Nat) (q_11 : Nat) (q_12 : Nat) (q_13 : Nat) (q_14 : Nat) (q_15 : Nat) (q_16 : Nat) (q_17 : Nat) (q_18 : Nat) (q_19 : Nat) (q_20 : Nat) (q_21 : Nat) (q_22 : Nat) (q_23 : Nat) (q_24 : Nat) (q_25 : Nat) (x_0 : Int32) (x_1 : Int32) (x_2 : Int32) (x_3 : Int32) (x_4 : Int32) (x_5 : Int32) (x_6 : Int32) (g_7 : Int64) (x_8 : Int32) (x_9 : Int32) (x_10 : Int32) (x_11 : Int32) (x_12 : Int32) (x_13 : Int32) (x_14 : Int32) (x_15 : Int32) (g_16 : Int64) (g_17 : Int64) (x_18 : Int32) (x_19 : Int32) (x_20 : Int32) (x_21 : Int32) (x_22 : Int32) (x_23 : Int32) (x_24 : Int32) (x_25 : Int32) (x_26 : Int32) (x_27 : Int32) (x_28 : Int32) (x_29 : Int32) (x_30 : Int32) : zMv l yX12_findKinds cX12_findKinds 4 none ({ frames := 0, cells := 0, slots := 0, locals := 0 }) D k [.ref q_0] [(q_0, .inr (12, [.int x_0, .int x_1, .ref q_1, .ref q_2, .ref q_3, .int x_2, .ref q_4, .ref q_5, .ref q_6, .ref q_7, .ref q_8, .int x_3, .int x_4, .int x_5, .int x_6, .long g_7, .int x_8, .int x_9, .int x_10, .ref q_9, .int x_11, .ref q_10, .ref q_11, .int x_12, .ref q_12, .ref q_13, .int x_13, .int x_14, .ref q_14, .ref q_15, .ref q_16, .ref q_17, .int x_15, .long g_16, .long g_17, .int x_18, .int x_19, .int x_20, .int x_21, .ref q_18, .ref q_19, .int x_22, .int x_23, .int x_24, .int x_25, .ref q_20, .ref q_21, .int x_26, .int x_27, .ref q_22, .ref q_23, .ref q_24, .ref q_25, .int x_28, .int x_29, .int x_30])), (q_1, .inl (k 0, 27101, .inl (fun _ => 0)))] (fun u => u.1 = 0) (fun u => [(q_0, .inr (12, [.int x_0, .int x_1, .ref q_1, .ref q_2, .ref q_3, .int x_2, .ref q_4, .ref q_5, .ref q_6, .ref q_7, .ref q_8, .int x_3, .int x_4, .int x_5, .int x_6, .long g_7, .int x_8, .int x_9, .int x_10, .ref q_9, .int x_11, .ref q_10, .ref q_11, .int x_12, .ref q_12, .ref q_13, .int x_13, .int x_14, .ref q_14, .ref q_15, .ref q_16, .ref q_17, .int x_15, .long g_16, .long g_17, .int x_18, .int x_19, .int x_20, .int x_21, .ref q_18, .ref q_19, .int x_22, .int x_23, .int x_24, .int x_25, .ref q_20, .ref q_21, .int x_26, .int x_27, .ref q_22, .ref q_23, .ref q_24, .ref q_25, .int x_28, .int x_29, .int x_30])), (q_1, .inl (k 0, 27101, .inl (fun _ => 0)))]) := by
  refine zMv_of (own := RX12) (by decide +kernel) rfl (Nat.le_of_ble_eq_true rfl) ?_
  intro p e s m args below meth c A ls C0 hr hlk hin hP hD hS hA hK hN hl
  have hx := C0.1
  have hb := C0.2.1
  have hml := C0.2.2.1
  have hown := C0.2.2.2.1
  have hts := C0.2.2.2.2
  have hl : lv_has ls 4 [(0, .ref q_0)] := hl
  have hP : va_P D vwCl [(q_0, .inr (12, [.int x_0, .int x_1, .ref q_1, .ref q_2, .ref q_3, .int x_2, .ref q_4, .ref q_5, .ref q_6, .ref q_7, .ref q_8, .int x_3, .int x_4, .int x_5, .int x_6, .long g_7, .int x_8, .int x_9, .int x_10, .ref q_9, .int x_11, .ref q_10, .ref q_11, .int x_12, .ref q_12, .ref q_13, .int x_13, .int x_14, .ref q_14, .ref q_15, .ref q_16, .ref q_17, .int x_15, .long g_16, .long g_17, .int x_18, .int x_19, .int x_20, .int x_21, .ref q_18, .ref q_19, .int x_22, .int x_23, .int x_24, .int x_25, .ref q_20, .ref q_21, .int x_26, .int x_27, .ref q_22, .ref q_23, .ref q_24, .ref q_25, .int x_28, .int x_29, .int x_30])), (q_1, .inl (k 0, 27101, .inl (fun _ => 0)))] s.heap := hP
  refine lv_iconst (v := 0) hx hb dX12_findKinds_0 (by decide) ?_
  refine lv_istore_n (lv' := [(1, .int 0), (0, .ref q_0)]) hx hb dX12_findKinds_1 rfl hl (by decide) rfl (fun ls hl => ?_)
  refine lv_iload_n hx hb dX12_findKinds_2 rfl (lv_at hl 0 rfl) ?_
  refine lv_aload_n hx hb dX12_findKinds_3 rfl (lv_at hl 1 rfl) ?_
  refine va_get (D := D) (ci := 12) (v := .ref q_1) (C := RX12) (T := TX12) (N := 56) hx hb hts inX12 hown hK hP 0 rfl rfl 2 (by decide) (hts _ kF_X12_7) (fun _ h9 => h9) rfl dX12_findKinds_4 ?_
  refine lv_iconst (v := 3) hx hb dX12_findKinds_7 (by decide) ?_
  refine va_iald hx hb hK hP 1 0 rfl rfl (by unfold vp_in; decide) dX12_findKinds_8 ?_
  refine lv_toc (v := 0) rfl ?_
  refine lv_icmp_ge (tgt := 155) hx hb dX12_findKinds_9 (by decide) (fun _ => ?_) (fun c1 => absurd (by decide) c1)
  exact z_vret C0 hr hlk hK hP hD hS (0, fun _ => 0) rfl [0, 1] rfl rfl rfl dX12_findKinds_155

set_option maxHeartbeats 4000000 in
set_option maxRecDepth 100000 in
theorem c_X12_knowBy_1 (l : Launch) (D : va_G) (k : Nat → ClassId) (q_0 : Nat) (q_1 : Nat) (q_2 : Nat) (q_3 : Nat) (q_4 : Nat) (q_5 : Nat) (q_6 : Nat) (q_7 : Nat) (q_8 : Nat) (q_9 : Nat) (q_10 : Nat) (q_11 : Nat) (q_12 : Nat) (q_13 : Nat) (q_14 : Nat) (q_15 : Nat) (q_16 : Nat) (q_17 : Nat) (q_18 : Nat) (q_19 : Nat) (q_20 : Nat) (q_21 : Nat) (q_22 : Nat) (q_23 : Nat) (q_24 : Nat) (q_25 : Nat) (x_0 : Int32) (x_1 : Int32) (x_2 : Int32) (x_3 : Int32) (x_4 : Int32) (x_5 : Int32) (x_6 : Int32) (x_7 : Int32) (g_8 : Int64) (x_9 : Int32) (x_10 : Int32) (x_11 : Int32) (x_12 : Int32) (x_13 : Int32) (x_14 : Int32) (x_15 : Int32) (x_16 : Int32) (g_17 : Int64) (g_18 : Int64) (x_19 : Int32) (x_20 : Int32) (x_21 : Int32) (x_22 : Int32) (x_23 : Int32) (x_24 : Int32) (x_25 : Int32) (x_26 : Int32) (x_27 : Int32) (x_28 : Int32) (x_29 : Int32) (x_30 : Int32) (x_31 : Int32) : zMv l yX12_knowBy cX12_knowBy 7 none ({ frames := 1, cells := 0, slots := 0, locals := 23 }) D k [.ref q_0, .int x_0] [(q_0, .inr (12, [.int x_1, .int x_2, .ref q_1, .ref q_2, .ref q_3, .int x_3, .ref q_4, .ref q_5, .ref q_6, .ref q_7, .ref q_8, .int x_4, .int x_5, .int x_6, .int x_7, .long g_8, .int x_9, .int x_10, .int x_11, .ref q_9, .int x_12, .ref q_10, .ref q_11, .int x_13, .ref q_12, .ref q_13, .int x_14, .int x_15, .ref q_14, .ref q_15, .ref q_16, .ref q_17, .int x_16, .long g_17, .long g_18, .int x_19, .int x_20, .int x_21, .int x_22, .ref q_18, .ref q_19, .int x_23, .int x_24, .int x_25, .int x_26, .ref q_20, .ref q_21, .int x_27, .int x_28, .ref q_22, .ref q_23, .ref q_24, .ref q_25, .int x_29, .int x_30, .int x_31])), (q_1, .inl (k 0, 27101, .inl (fun _ => 0)))] (fun u => u.1 = 0) (fun u => [(q_0, .inr (12, [.int x_1, .int x_2, .ref q_1, .ref q_2, .ref q_3, .int x_0, .ref q_4, .ref q_5, .ref q_6, .ref q_7, .ref q_8, .int x_4, .int x_5, .int x_6, .int x_7, .long g_8, .int x_9, .int x_10, .int x_11, .ref q_9, .int x_12, .ref q_10, .ref q_11, .int x_13, .ref q_12, .ref q_13, .int x_14, .int x_15, .ref q_14, .ref q_15, .ref q_16, .ref q_17, .int x_16, .long g_17, .long g_18, .int x_19, .int x_20, .int x_21, .int x_22, .ref q_18, .ref q_19, .int x_23, .int x_24, .int x_25, .int x_26, .ref q_20, .ref q_21, .int x_27, .int x_28, .ref q_22, .ref q_23, .ref q_24, .ref q_25, .int x_29, .int x_30, .int x_31])), (q_1, .inl (k 0, 27101, .inl (fun _ => 0)))]) := by
  refine zMv_of (own := RX12) (by decide +kernel) rfl (Nat.le_of_ble_eq_true rfl) ?_
  intro p e s m args below meth c A ls C0 hr hlk hin hP hD hS hA hK hN hl
  have hx := C0.1
  have hb := C0.2.1
  have hml := C0.2.2.1
  have hown := C0.2.2.2.1
  have hts := C0.2.2.2.2
  have hl : lv_has ls 7 [(0, .ref q_0), (1, .int x_0)] := hl
  have hP : va_P D vwCl [(q_0, .inr (12, [.int x_1, .int x_2, .ref q_1, .ref q_2, .ref q_3, .int x_3, .ref q_4, .ref q_5, .ref q_6, .ref q_7, .ref q_8, .int x_4, .int x_5, .int x_6, .int x_7, .long g_8, .int x_9, .int x_10, .int x_11, .ref q_9, .int x_12, .ref q_10, .ref q_11, .int x_13, .ref q_12, .ref q_13, .int x_14, .int x_15, .ref q_14, .ref q_15, .ref q_16, .ref q_17, .int x_16, .long g_17, .long g_18, .int x_19, .int x_20, .int x_21, .int x_22, .ref q_18, .ref q_19, .int x_23, .int x_24, .int x_25, .int x_26, .ref q_20, .ref q_21, .int x_27, .int x_28, .ref q_22, .ref q_23, .ref q_24, .ref q_25, .int x_29, .int x_30, .int x_31])), (q_1, .inl (k 0, 27101, .inl (fun _ => 0)))] s.heap := hP
  refine lv_aload_n hx hb dX12_knowBy_0 rfl (lv_at hl 0 rfl) ?_
  refine lv_iload_n hx hb dX12_knowBy_1 rfl (lv_at hl 1 rfl) ?_
  refine va_put (D := D) (ci := 12) (v := .int x_0) (ty := .int) (C := RX12) (T := TX12) (N := 56) hx hb hts inX12 tyX12 tyX12_ok nmX12 hown hK hP hD hS 0 rfl rfl 5 (by decide) (hts _ kF_X12_161) (fun _ h9 => h9) rfl (by decide +kernel) rfl rfl (Nat.le_of_ble_eq_true rfl) dX12_knowBy_2 (fun H locs hP hD hS => ?_)
  have hP : va_P D vwCl [(q_0, .inr (12, [.int x_1, .int x_2, .ref q_1, .ref q_2, .ref q_3, .int x_0, .ref q_4, .ref q_5, .ref q_6, .ref q_7, .ref q_8, .int x_4, .int x_5, .int x_6, .int x_7, .long g_8, .int x_9, .int x_10, .int x_11, .ref q_9, .int x_12, .ref q_10, .ref q_11, .int x_13, .ref q_12, .ref q_13, .int x_14, .int x_15, .ref q_14, .ref q_15, .ref q_16, .ref q_17, .int x_16, .long g_17, .long g_18, .int x_19, .int x_20, .int x_21, .int x_22, .ref q_18, .ref q_19, .int x_23, .int x_24, .int x_25, .int x_26, .ref q_20, .ref q_21, .int x_27, .int x_28, .ref q_22, .ref q_23, .ref q_24, .ref q_25, .int x_29, .int x_30, .int x_31])), (q_1, .inl (k 0, 27101, .inl (fun _ => 0)))] H := hP
  have hD : va_D A [(q_0, .inr (12, [.int x_1, .int x_2, .ref q_1, .ref q_2, .ref q_3, .int x_0, .ref q_4, .ref q_5, .ref q_6, .ref q_7, .ref q_8, .int x_4, .int x_5, .int x_6, .int x_7, .long g_8, .int x_9, .int x_10, .int x_11, .ref q_9, .int x_12, .ref q_10, .ref q_11, .int x_13, .ref q_12, .ref q_13, .int x_14, .int x_15, .ref q_14, .ref q_15, .ref q_16, .ref q_17, .int x_16, .long g_17, .long g_18, .int x_19, .int x_20, .int x_21, .int x_22, .ref q_18, .ref q_19, .int x_23, .int x_24, .int x_25, .int x_26, .ref q_20, .ref q_21, .int x_27, .int x_28, .ref q_22, .ref q_23, .ref q_24, .ref q_25, .int x_29, .int x_30, .int x_31])), (q_1, .inl (k 0, 27101, .inl (fun _ => 0)))] := hD
  refine lv_iconst (v := 0) hx hb dX12_knowBy_5 (by decide) ?_
  refine lv_istore_n (lv' := [(2, .int 0), (0, .ref q_0), (1, .int x_0)]) hx hb dX12_knowBy_6 rfl hl (by decide) rfl (fun ls hl => ?_)
  refine lv_iload_n hx hb dX12_knowBy_7 rfl (lv_at hl 0 rfl) ?_
  refine lv_aload_n hx hb dX12_knowBy_8 rfl (lv_at hl 1 rfl) ?_
  refine va_get (D := D) (ci := 12) (v := .ref q_1) (C := RX12) (T := TX12) (N := 56) hx hb hts inX12 hown hK hP 0 rfl rfl 2 (by decide) (hts _ kF_X12_7) (fun _ h9 => h9) rfl dX12_knowBy_9 ?_
  refine lv_iconst (v := 3) hx hb dX12_knowBy_12 (by decide) ?_
  refine va_iald hx hb hK hP 1 0 rfl rfl (by unfold vp_in; decide) dX12_knowBy_13 ?_
  refine lv_toc (v := 0) rfl ?_
  refine lv_icmp_ge (tgt := 243) hx hb dX12_knowBy_14 (by decide) (fun _ => ?_) (fun c1 => absurd (by decide) c1)
  refine lv_aload_n hx hb dX12_knowBy_243 rfl (lv_at hl 1 rfl) ?_
  refine z_bv (wr := []) (z_runV (C := RX12) (As := []) (rest := []) C0 (c_X12_findKinds_1 l D k q_0 q_1 q_2 q_3 q_4 q_5 q_6 q_7 q_8 q_9 q_10 q_11 q_12 q_13 q_14 q_15 q_16 q_17 q_18 q_19 q_20 q_21 q_22 q_23 q_24 q_25 x_1 x_2 x_0 x_4 x_5 x_6 x_7 g_8 x_9 x_10 x_11 x_12 x_13 x_14 x_15 x_16 g_17 g_18 x_19 x_20 x_21 x_22 x_23 x_24 x_25 x_26 x_27 x_28 x_29 x_30 x_31 _) okV_X12_findKinds kM_X12_164 rfl (z_pV (q0 := 0) hK hN hP hD [0, 1] rfl rfl rfl rfl rfl) rfl hl.1 rfl (Nat.le_of_ble_eq_true rfl) dX12_knowBy_244 rfl) hP hD hS hA [0, 1] [] rfl rfl rfl rfl (fun u2 H locs hw2 hP hD hS => ?_)
  obtain ⟨i2, a2⟩ := u2
  dsimp only at hw2
  obtain rfl := hw2
  have hP : va_P D vwCl [(q_0, .inr (12, [.int x_1, .int x_2, .ref q_1, .ref q_2, .ref q_3, .int x_0, .ref q_4, .ref q_5, .ref q_6, .ref q_7, .ref q_8, .int x_4, .int x_5, .int x_6, .int x_7, .long g_8, .int x_9, .int x_10, .int x_11, .ref q_9, .int x_12, .ref q_10, .ref q_11, .int x_13, .ref q_12, .ref q_13, .int x_14, .int x_15, .ref q_14, .ref q_15, .ref q_16, .ref q_17, .int x_16, .long g_17, .long g_18, .int x_19, .int x_20, .int x_21, .int x_22, .ref q_18, .ref q_19, .int x_23, .int x_24, .int x_25, .int x_26, .ref q_20, .ref q_21, .int x_27, .int x_28, .ref q_22, .ref q_23, .ref q_24, .ref q_25, .int x_29, .int x_30, .int x_31])), (q_1, .inl (k 0, 27101, .inl (fun _ => 0)))] H := hP
  have hD : va_D A [(q_0, .inr (12, [.int x_1, .int x_2, .ref q_1, .ref q_2, .ref q_3, .int x_0, .ref q_4, .ref q_5, .ref q_6, .ref q_7, .ref q_8, .int x_4, .int x_5, .int x_6, .int x_7, .long g_8, .int x_9, .int x_10, .int x_11, .ref q_9, .int x_12, .ref q_10, .ref q_11, .int x_13, .ref q_12, .ref q_13, .int x_14, .int x_15, .ref q_14, .ref q_15, .ref q_16, .ref q_17, .int x_16, .long g_17, .long g_18, .int x_19, .int x_20, .int x_21, .int x_22, .ref q_18, .ref q_19, .int x_23, .int x_24, .int x_25, .int x_26, .ref q_20, .ref q_21, .int x_27, .int x_28, .ref q_22, .ref q_23, .ref q_24, .ref q_25, .int x_29, .int x_30, .int x_31])), (q_1, .inl (k 0, 27101, .inl (fun _ => 0)))] := hD
  exact z_vret C0 hr hlk hK hP hD hS (0, fun _ => 0) rfl [0, 1] rfl rfl rfl dX12_knowBy_247

set_option maxHeartbeats 4000000 in
set_option maxRecDepth 100000 in
theorem c_X12_cannot_1 (l : Launch) (D : va_G) (k : Nat → ClassId) (q_0 : Nat) (q_1 : Nat) (q_2 : Nat) (q_3 : Nat) (q_4 : Nat) (q_5 : Nat) (q_6 : Nat) (q_7 : Nat) (q_8 : Nat) (q_9 : Nat) (q_10 : Nat) (q_11 : Nat) (q_12 : Nat) (q_13 : Nat) (q_14 : Nat) (q_15 : Nat) (q_16 : Nat) (q_17 : Nat) (q_18 : Nat) (q_19 : Nat) (q_20 : Nat) (q_21 : Nat) (q_22 : Nat) (q_23 : Nat) (q_24 : Nat) (q_25 : Nat) (x_0 : Int32) (x_1 : Int32) (x_2 : Int32) (x_3 : Int32) (x_4 : Int32) (x_5 : Int32) (x_6 : Int32) (x_7 : Int32) (x_8 : Int32) (x_9 : Int32) (x_10 : Int32) (g_11 : Int64) (x_12 : Int32) (x_13 : Int32) (x_14 : Int32) (x_15 : Int32) (x_16 : Int32) (x_17 : Int32) (x_18 : Int32) (x_19 : Int32) (g_20 : Int64) (g_21 : Int64) (x_22 : Int32) (x_23 : Int32) (x_24 : Int32) (x_25 : Int32) (x_26 : Int32) (x_27 : Int32) (x_28 : Int32) (x_29 : Int32) (x_30 : Int32) (x_31 : Int32) (x_32 : Int32) (x_33 : Int32) (x_34 : Int32) : zMi l yX12_cannot cX12_cannot 8 (some .int) ({ frames := 2, cells := 0, slots := 0, locals := 49 }) D k [.ref q_0, .int x_0, .int x_1, .int x_2, .int x_3] [(q_0, .inr (12, [.int x_4, .int x_5, .ref q_1, .ref q_2, .ref q_3, .int x_6, .ref q_4, .ref q_5, .ref q_6, .ref q_7, .ref q_8, .int x_7, .int x_8, .int x_9, .int x_10, .long g_11, .int x_12, .int x_13, .int x_14, .ref q_9, .int x_15, .ref q_10, .ref q_11, .int x_16, .ref q_12, .ref q_13, .int x_17, .int x_18, .ref q_14, .ref q_15, .ref q_16, .ref q_17, .int x_19, .long g_20, .long g_21, .int x_22, .int x_23, .int x_24, .int x_25, .ref q_18, .ref q_19, .int x_26, .int x_27, .int x_28, .int x_29, .ref q_20, .ref q_21, .int x_30, .int x_31, .ref q_22, .ref q_23, .ref q_24, .ref q_25, .int x_32, .int x_33, .int x_34])), (q_1, .inl (k 0, 27101, .inl (fun _ => 0)))] (fun r u => (u.1 = 0 ∧ r = (-1) ∧ (((((Int32.toInt64 x_1) < 0) ∨ (¬ (Int32.toInt64 x_1) < 0 ∧ (799 : Int64) < (Int32.toInt64 x_1)))) ∨ (((¬ (Int32.toInt64 x_1) < 0 ∧ ¬ (799 : Int64) < (Int32.toInt64 x_1))) ∧ (((Int32.toInt64 x_0) < 0) ∨ (¬ (Int32.toInt64 x_0) < 0 ∧ (Int32.toInt64 x_1) < (Int32.toInt64 x_0)))) ∨ (((¬ (Int32.toInt64 x_1) < 0 ∧ ¬ (799 : Int64) < (Int32.toInt64 x_1))) ∧ ((¬ (Int32.toInt64 x_0) < 0 ∧ ¬ (Int32.toInt64 x_1) < (Int32.toInt64 x_0))) ∧ (((Int32.toInt64 x_2) < 0) ∨ (¬ (Int32.toInt64 x_2) < 0 ∧ (399 : Int64) < (Int32.toInt64 x_2)))) ∨ (((¬ (Int32.toInt64 x_1) < 0 ∧ ¬ (799 : Int64) < (Int32.toInt64 x_1))) ∧ ((¬ (Int32.toInt64 x_0) < 0 ∧ ¬ (Int32.toInt64 x_1) < (Int32.toInt64 x_0))) ∧ ((¬ (Int32.toInt64 x_2) < 0 ∧ ¬ (399 : Int64) < (Int32.toInt64 x_2))) ∧ ¬ x_3 = (-1)))) ∨ (u.1 = 1 ∧ r = 0 ∧ ((((¬ (Int32.toInt64 x_1) < 0 ∧ ¬ (799 : Int64) < (Int32.toInt64 x_1))) ∧ ((¬ (Int32.toInt64 x_0) < 0 ∧ ¬ (Int32.toInt64 x_1) < (Int32.toInt64 x_0))) ∧ ((¬ (Int32.toInt64 x_2) < 0 ∧ ¬ (399 : Int64) < (Int32.toInt64 x_2))) ∧ x_3 = (-1))))) (fun u => []) := by
  refine zMi_of (own := RX12) (by decide +kernel) rfl (Nat.le_of_ble_eq_true rfl) ?_
  intro p e s m args below meth c A ls C0 hr hlk hin hP hD hS hA hK hN hl
  have hx := C0.1
  have hb := C0.2.1
  have hml := C0.2.2.1
  have hown := C0.2.2.2.1
  have hts := C0.2.2.2.2
  have hl : lv_has ls 8 [(0, .ref q_0), (1, .int x_0), (2, .int x_1), (3, .int x_2), (4, .int x_3)] := hl
  have hP : va_P D vwCl [(q_0, .inr (12, [.int x_4, .int x_5, .ref q_1, .ref q_2, .ref q_3, .int x_6, .ref q_4, .ref q_5, .ref q_6, .ref q_7, .ref q_8, .int x_7, .int x_8, .int x_9, .int x_10, .long g_11, .int x_12, .int x_13, .int x_14, .ref q_9, .int x_15, .ref q_10, .ref q_11, .int x_16, .ref q_12, .ref q_13, .int x_17, .int x_18, .ref q_14, .ref q_15, .ref q_16, .ref q_17, .int x_19, .long g_20, .long g_21, .int x_22, .int x_23, .int x_24, .int x_25, .ref q_18, .ref q_19, .int x_26, .int x_27, .int x_28, .int x_29, .ref q_20, .ref q_21, .int x_30, .int x_31, .ref q_22, .ref q_23, .ref q_24, .ref q_25, .int x_32, .int x_33, .int x_34])), (q_1, .inl (k 0, 27101, .inl (fun _ => 0)))] s.heap := hP
  refine lv_aload_n hx hb dX12_cannot_0 rfl (lv_at hl 0 rfl) ?_
  refine lv_iconst (v := 0) hx hb dX12_cannot_1 (by decide) ?_
  refine va_put (D := D) (ci := 12) (v := .int 0) (ty := .int) (C := RX12) (T := TX12) (N := 56) hx hb hts inX12 tyX12 tyX12_ok nmX12 hown hK hP hD hS 0 rfl rfl 0 (by decide) (hts _ kF_X12_92) (fun _ h9 => h9) rfl (by decide +kernel) rfl rfl (Nat.le_of_ble_eq_true rfl) dX12_cannot_2 (fun H locs hP hD hS => ?_)
  have hP : va_P D vwCl [(q_0, .inr (12, [.int 0, .int x_5, .ref q_1, .ref q_2, .ref q_3, .int x_6, .ref q_4, .ref q_5, .ref q_6, .ref q_7, .ref q_8, .int x_7, .int x_8, .int x_9, .int x_10, .long g_11, .int x_12, .int x_13, .int x_14, .ref q_9, .int x_15, .ref q_10, .ref q_11, .int x_16, .ref q_12, .ref q_13, .int x_17, .int x_18, .ref q_14, .ref q_15, .ref q_16, .ref q_17, .int x_19, .long g_20, .long g_21, .int x_22, .int x_23, .int x_24, .int x_25, .ref q_18, .ref q_19, .int x_26, .int x_27, .int x_28, .int x_29, .ref q_20, .ref q_21, .int x_30, .int x_31, .ref q_22, .ref q_23, .ref q_24, .ref q_25, .int x_32, .int x_33, .int x_34])), (q_1, .inl (k 0, 27101, .inl (fun _ => 0)))] H := hP
  have hD : va_D A [(q_0, .inr (12, [.int 0, .int x_5, .ref q_1, .ref q_2, .ref q_3, .int x_6, .ref q_4, .ref q_5, .ref q_6, .ref q_7, .ref q_8, .int x_7, .int x_8, .int x_9, .int x_10, .long g_11, .int x_12, .int x_13, .int x_14, .ref q_9, .int x_15, .ref q_10, .ref q_11, .int x_16, .ref q_12, .ref q_13, .int x_17, .int x_18, .ref q_14, .ref q_15, .ref q_16, .ref q_17, .int x_19, .long g_20, .long g_21, .int x_22, .int x_23, .int x_24, .int x_25, .ref q_18, .ref q_19, .int x_26, .int x_27, .int x_28, .int x_29, .ref q_20, .ref q_21, .int x_30, .int x_31, .ref q_22, .ref q_23, .ref q_24, .ref q_25, .int x_32, .int x_33, .int x_34])), (q_1, .inl (k 0, 27101, .inl (fun _ => 0)))] := hD
  refine lv_iload_n hx hb dX12_cannot_5 rfl (lv_at hl 2 rfl) ?_
  refine z_bi0 (z_runS (As := [.int x_1]) (rest := []) C0 (c_X12_isHalf_1 l D k x_1 _) okS_X12_isHalf kM_X12_145 rfl (z_p0 hK hN) rfl hl.1 rfl (Nat.le_of_ble_eq_true rfl) dX12_cannot_6 rfl) hP hS hA (fun r1 u1 H locs hw1 hP hS => ?_)
  obtain ⟨i1, a1⟩ := u1
  dsimp only at hw1
  rcases hw1 with ⟨rfl, rfl, c1⟩ | ⟨rfl, rfl, c1⟩
  · refine lv_if_eq (tgt := 30) hx hb dX12_cannot_9 (by decide) (fun _ => ?_) (fun c2 => absurd (by decide) c2)
    refine lv_iconst (v := (-1)) hx hb dX12_cannot_30 (by decide) ?_
    exact z_iret C0 hr hlk rfl hK hP hD hS (0, fun _ => 0) (Or.inl ⟨rfl, rfl, (Or.inl c1)⟩) [] rfl rfl rfl dX12_cannot_31
  · refine lv_if_eq (tgt := 30) hx hb dX12_cannot_9 (by decide) (fun c3 => absurd c3 (by decide)) (fun _ => ?_)
    refine lv_iload_n hx hb dX12_cannot_12 rfl (lv_at hl 1 rfl) ?_
    refine lv_i2l (v := (Int32.toInt64 x_0)) hx hb dX12_cannot_13 rfl ?_
    refine lv_lconst (v := 0) hx hb dX12_cannot_14 (by decide) ?_
    refine lv_iload_n hx hb dX12_cannot_15 rfl (lv_at hl 2 rfl) ?_
    refine lv_i2l (v := (Int32.toInt64 x_1)) hx hb dX12_cannot_16 rfl ?_
    refine z_bi0 (z_runS (As := [.long (Int32.toInt64 x_0), .long 0, .long (Int32.toInt64 x_1)]) (rest := []) C0 (c_X12_in_1 l D k (Int32.toInt64 x_0) 0 (Int32.toInt64 x_1) _) okS_X12_in kM_X12_100 rfl (z_p0 hK hN) rfl hl.1 rfl (Nat.le_of_ble_eq_true rfl) dX12_cannot_17 rfl) hP hS hA (fun r4 u4 H locs hw4 hP hS => ?_)
    obtain ⟨i4, a4⟩ := u4
    dsimp only at hw4
    rcases hw4 with ⟨rfl, rfl, c4⟩ | ⟨rfl, rfl, c4⟩
    · refine lv_if_eq (tgt := 30) hx hb dX12_cannot_20 (by decide) (fun _ => ?_) (fun c5 => absurd (by decide) c5)
      refine lv_iconst (v := (-1)) hx hb dX12_cannot_30 (by decide) ?_
      exact z_iret C0 hr hlk rfl hK hP hD hS (0, fun _ => 0) (Or.inl ⟨rfl, rfl, (Or.inr (Or.inl (⟨c1, c4⟩)))⟩) [] rfl rfl rfl dX12_cannot_31
    · refine lv_if_eq (tgt := 30) hx hb dX12_cannot_20 (by decide) (fun c6 => absurd c6 (by decide)) (fun _ => ?_)
      refine lv_iload_n hx hb dX12_cannot_23 rfl (lv_at hl 3 rfl) ?_
      refine z_bi0 (z_runS (As := [.int x_2]) (rest := []) C0 (c_X12_isDay_1 l D k x_2 _) okS_X12_isDay kM_X12_127 rfl (z_p0 hK hN) rfl hl.1 rfl (Nat.le_of_ble_eq_true rfl) dX12_cannot_24 rfl) hP hS hA (fun r7 u7 H locs hw7 hP hS => ?_)
      obtain ⟨i7, a7⟩ := u7
      dsimp only at hw7
      rcases hw7 with ⟨rfl, rfl, c7⟩ | ⟨rfl, rfl, c7⟩
      · refine lv_if_ne (tgt := 32) hx hb dX12_cannot_27 (by decide) (fun c8 => absurd (by decide) c8) (fun _ => ?_)
        refine lv_iconst (v := (-1)) hx hb dX12_cannot_30 (by decide) ?_
        exact z_iret C0 hr hlk rfl hK hP hD hS (0, fun _ => 0) (Or.inl ⟨rfl, rfl, (Or.inr (Or.inr (Or.inl (⟨c1, c4, c7⟩))))⟩) [] rfl rfl rfl dX12_cannot_31
      · refine lv_if_ne (tgt := 32) hx hb dX12_cannot_27 (by decide) (fun _ => ?_) (fun c9 => absurd c9 (by decide))
        refine lv_aload_n hx hb dX12_cannot_32 rfl (lv_at hl 0 rfl) ?_
        refine lv_iload_n hx hb dX12_cannot_33 rfl (lv_at hl 3 rfl) ?_
        refine z_bv (wr := []) (z_runV (C := RX12) (As := [.int x_2]) (rest := []) C0 (c_X12_knowBy_1 l D k q_0 q_1 q_2 q_3 q_4 q_5 q_6 q_7 q_8 q_9 q_10 q_11 q_12 q_13 q_14 q_15 q_16 q_17 q_18 q_19 q_20 q_21 q_22 q_23 q_24 q_25 x_2 0 x_5 x_6 x_7 x_8 x_9 x_10 g_11 x_12 x_13 x_14 x_15 x_16 x_17 x_18 x_19 g_20 g_21 x_22 x_23 x_24 x_25 x_26 x_27 x_28 x_29 x_30 x_31 x_32 x_33 x_34 _) okV_X12_knowBy kM_X12_186 rfl (z_pV (q0 := 0) hK hN hP hD [0, 1] rfl rfl rfl rfl rfl) rfl hl.1 rfl (Nat.le_of_ble_eq_true rfl) dX12_cannot_34 rfl) hP hD hS hA [0, 1] [] rfl rfl rfl rfl (fun u10 H locs hw10 hP hD hS => ?_)
        obtain ⟨i10, a10⟩ := u10
        dsimp only at hw10
        obtain rfl := hw10
        have hP : va_P D vwCl [(q_0, .inr (12, [.int 0, .int x_5, .ref q_1, .ref q_2, .ref q_3, .int x_2, .ref q_4, .ref q_5, .ref q_6, .ref q_7, .ref q_8, .int x_7, .int x_8, .int x_9, .int x_10, .long g_11, .int x_12, .int x_13, .int x_14, .ref q_9, .int x_15, .ref q_10, .ref q_11, .int x_16, .ref q_12, .ref q_13, .int x_17, .int x_18, .ref q_14, .ref q_15, .ref q_16, .ref q_17, .int x_19, .long g_20, .long g_21, .int x_22, .int x_23, .int x_24, .int x_25, .ref q_18, .ref q_19, .int x_26, .int x_27, .int x_28, .int x_29, .ref q_20, .ref q_21, .int x_30, .int x_31, .ref q_22, .ref q_23, .ref q_24, .ref q_25, .int x_32, .int x_33, .int x_34])), (q_1, .inl (k 0, 27101, .inl (fun _ => 0)))] H := hP
        have hD : va_D A [(q_0, .inr (12, [.int 0, .int x_5, .ref q_1, .ref q_2, .ref q_3, .int x_2, .ref q_4, .ref q_5, .ref q_6, .ref q_7, .ref q_8, .int x_7, .int x_8, .int x_9, .int x_10, .long g_11, .int x_12, .int x_13, .int x_14, .ref q_9, .int x_15, .ref q_10, .ref q_11, .int x_16, .ref q_12, .ref q_13, .int x_17, .int x_18, .ref q_14, .ref q_15, .ref q_16, .ref q_17, .int x_19, .long g_20, .long g_21, .int x_22, .int x_23, .int x_24, .int x_25, .ref q_18, .ref q_19, .int x_26, .int x_27, .int x_28, .int x_29, .ref q_20, .ref q_21, .int x_30, .int x_31, .ref q_22, .ref q_23, .ref q_24, .ref q_25, .int x_32, .int x_33, .int x_34])), (q_1, .inl (k 0, 27101, .inl (fun _ => 0)))] := hD
        refine lv_iconst (v := 0) hx hb dX12_cannot_37 (by decide) ?_
        refine lv_istore (lv' := [(5, .int 0), (0, .ref q_0), (1, .int x_0), (2, .int x_1), (3, .int x_2), (4, .int x_3)]) hx hb dX12_cannot_38 hl (by decide) rfl (fun ls hl => ?_)
        refine lv_iconst (v := (-1)) hx hb dX12_cannot_40 (by decide) ?_
        refine lv_istore (lv' := [(6, .int (-1)), (5, .int 0), (0, .ref q_0), (1, .int x_0), (2, .int x_1), (3, .int x_2), (4, .int x_3)]) hx hb dX12_cannot_41 hl (by decide) rfl (fun ls hl => ?_)
        refine lv_iconst (v := 0) hx hb dX12_cannot_43 (by decide) ?_
        refine lv_istore (lv' := [(7, .int 0), (6, .int (-1)), (5, .int 0), (0, .ref q_0), (1, .int x_0), (2, .int x_1), (3, .int x_2), (4, .int x_3)]) hx hb dX12_cannot_44 hl (by decide) rfl (fun ls hl => ?_)
        refine lv_iload hx hb dX12_cannot_46 (lv_at hl 0 rfl) ?_
        refine lv_aload_n hx hb dX12_cannot_48 rfl (lv_at hl 3 rfl) ?_
        refine va_get (D := D) (ci := 12) (v := .ref q_1) (C := RX12) (T := TX12) (N := 56) hx hb hts inX12 hown hK hP 0 rfl rfl 2 (by decide) (hts _ kF_X12_7) (fun _ h9 => h9) rfl dX12_cannot_49 ?_
        refine lv_iconst (v := 3) hx hb dX12_cannot_52 (by decide) ?_
        refine va_iald hx hb hK hP 1 0 rfl rfl (by unfold vp_in; decide) dX12_cannot_53 ?_
        refine lv_toc (v := 0) rfl ?_
        refine lv_icmp_ge (tgt := 114) hx hb dX12_cannot_54 (by decide) (fun _ => ?_) (fun c11 => absurd (by decide) c11)
        refine lv_iload hx hb dX12_cannot_114 (lv_at hl 7 rfl) ?_
        refine lv_iconst (v := (-1)) hx hb dX12_cannot_116 (by decide) ?_
        refine lv_icmp_ne (tgt := 125) hx hb dX12_cannot_117 (by decide) (fun c12 => ?_) (fun c12 => ?_)
        · refine lv_iload hx hb dX12_cannot_125 (lv_at hl 1 rfl) ?_
          exact z_iret C0 hr hlk rfl hK hP hD hS (0, fun _ => 0) (Or.inl ⟨rfl, rfl, (Or.inr (Or.inr (Or.inr (⟨c1, c4, c7, c12⟩))))⟩) [] rfl rfl rfl dX12_cannot_127
        · refine lv_iload hx hb dX12_cannot_120 (lv_at hl 2 rfl) ?_
          refine lv_goto (tgt := 127) hx hb dX12_cannot_122 (by decide) ?_
          exact z_iret C0 hr hlk rfl hK hP hD hS (1, fun _ => 0) (Or.inr (⟨rfl, rfl, ⟨c1, c4, c7, c12⟩⟩)) [] rfl rfl rfl dX12_cannot_127

set_option maxHeartbeats 4000000 in
set_option maxRecDepth 100000 in
theorem c_X11_visit_1 (l : Launch) (D : va_G) (k : Nat → ClassId) (q_0 : Nat) (q_1 : Nat) (q_2 : Nat) (q_3 : Nat) (q_4 : Nat) (q_5 : Nat) (q_6 : Nat) (q_7 : Nat) (q_8 : Nat) (q_9 : Nat) (q_10 : Nat) (q_11 : Nat) (q_12 : Nat) (q_13 : Nat) (q_14 : Nat) (q_15 : Nat) (q_16 : Nat) (q_17 : Nat) (q_18 : Nat) (q_19 : Nat) (q_20 : Nat) (q_21 : Nat) (q_22 : Nat) (q_23 : Nat) (x_0 : Int32) (x_1 : Int32) (x_2 : Int32) (x_3 : Int32) (x_4 : Int32) (x_5 : Int32) : zMi l yX11_visit cX11_visit 5 (some .int) ({ frames := 1, cells := 0, slots := 0, locals := 22 }) D k [.ref q_0, .int x_0, .int x_1, .int x_2] [(q_0, .inr (11, [.ref q_1, .ref q_3, .ref q_4, .ref q_5, .ref q_6, .int x_3])), (q_1, .inr (3, [.ref q_2, .ref q_7, .ref q_8, .ref q_9, .ref q_10, .ref q_11])), (q_2, .inr (6, [.int 0, .ref q_12, .ref q_13, .ref q_14, .ref q_15, .ref q_16, .int x_4, .ref q_17, .int x_5, .ref q_18, .ref q_19, .ref q_20, .ref q_21, .ref q_22, .ref q_23]))] (fun r u => (u.1 = 0 ∧ r = (-1) ∧ ((((x_1 < 1) ∨ (¬ x_1 < 1 ∧ ¬ x_1 ≤ 200))) ∨ (((¬ x_1 < 1 ∧ x_1 ≤ 200)) ∧ ((x_2 < 1) ∨ (¬ x_2 < 1 ∧ ¬ x_2 ≤ 1000))))) ∨ (u.1 = 1 ∧ r = (-2) ∧ ((((¬ x_1 < 1 ∧ x_1 ≤ 200)) ∧ ((¬ x_2 < 1 ∧ x_2 ≤ 1000)))))) (fun u => []) := by
  refine zMi_of (own := RX11) (by decide +kernel) rfl (Nat.le_of_ble_eq_true rfl) ?_
  intro p e s m args below meth c A ls C0 hr hlk hin hP hD hS hA hK hN hl
  have hx := C0.1
  have hb := C0.2.1
  have hml := C0.2.2.1
  have hown := C0.2.2.2.1
  have hts := C0.2.2.2.2
  have hl : lv_has ls 5 [(0, .ref q_0), (1, .int x_0), (2, .int x_1), (3, .int x_2)] := hl
  have hP : va_P D vwCl [(q_0, .inr (11, [.ref q_1, .ref q_3, .ref q_4, .ref q_5, .ref q_6, .int x_3])), (q_1, .inr (3, [.ref q_2, .ref q_7, .ref q_8, .ref q_9, .ref q_10, .ref q_11])), (q_2, .inr (6, [.int 0, .ref q_12, .ref q_13, .ref q_14, .ref q_15, .ref q_16, .int x_4, .ref q_17, .int x_5, .ref q_18, .ref q_19, .ref q_20, .ref q_21, .ref q_22, .ref q_23]))] s.heap := hP
  refine lv_aload_n hx hb dX11_visit_0 rfl (lv_at hl 0 rfl) ?_
  refine va_get (D := D) (ci := 11) (v := .ref q_1) (C := RX11) (T := TX11) (N := 6) hx hb hts inX11 hown hK hP 0 rfl rfl 0 (by decide) (hts _ kF_X11_12) (fun _ h9 => h9) rfl dX11_visit_1 ?_
  refine va_get (D := D) (ci := 3) (v := .ref q_11) (C := RX3) (T := TX3) (N := 6) hx hb hts inX3 hown hK hP 1 rfl rfl 5 (by decide) (hts _ kF_X11_263) (fun _ h9 => h9) rfl dX11_visit_4 ?_
  refine lv_astore (lv' := [(4, .ref q_11), (0, .ref q_0), (1, .int x_0), (2, .int x_1), (3, .int x_2)]) hx hb dX11_visit_7 hl (by decide) rfl (fun ls hl => ?_)
  refine lv_iload_n hx hb dX11_visit_9 rfl (lv_at hl 3 rfl) ?_
  refine lv_iconst (v := 1) hx hb dX11_visit_10 (by decide) ?_
  refine lv_sipush (v := 200) hx hb dX11_visit_11 (by decide) ?_
  refine z_bi0 (z_runS (As := [.int x_1, .int 1, .int 200]) (rest := []) C0 (c_X11_isOutside_1 l D k x_1 1 200 _) okS_X11_isOutside kM_X11_47 rfl (z_p0 hK hN) rfl hl.1 rfl (Nat.le_of_ble_eq_true rfl) dX11_visit_14 rfl) hP hS hA (fun r1 u1 H locs hw1 hP hS => ?_)
  obtain ⟨i1, a1⟩ := u1
  dsimp only at hw1
  rcases hw1 with ⟨rfl, rfl, c1⟩ | ⟨rfl, rfl, c1⟩
  · refine lv_if_ne (tgt := 31) hx hb dX11_visit_17 (by decide) (fun _ => ?_) (fun c2 => absurd c2 (by decide))
    refine lv_aload_n hx hb dX11_visit_31 rfl (lv_at hl 1 rfl) ?_
    refine lv_iconst (v := (-1)) hx hb dX11_visit_32 (by decide) ?_
    refine z_bi (wr := [(q_1, .inr (3, [.ref q_2, .ref q_7, .ref q_8, .ref q_9, .ref q_10, .ref q_11])), (q_2, .inr (6, [.int 0, .ref q_12, .ref q_13, .ref q_14, .ref q_15, .ref q_16, .int x_4, .ref q_17, .int x_5, .ref q_18, .ref q_19, .ref q_20, .ref q_21, .ref q_22, .ref q_23]))]) (z_runV (C := RX11) (As := [.int (-1)]) (rest := []) C0 (c_X11_answer_1 l D k q_0 q_1 q_3 q_4 q_5 q_6 x_3 _) okV_X11_answer kM_X11_55 rfl (z_pV (q0 := 0) hK hN hP hD [0] rfl rfl rfl rfl rfl) rfl hl.1 rfl (Nat.le_of_ble_eq_true rfl) dX11_visit_33 rfl) hP hD hS hA [0] [1, 2] rfl rfl rfl rfl (fun r3 u3 H locs hw3 hP hD hS => ?_)
    obtain ⟨i3, a3⟩ := u3
    dsimp only at hw3
    obtain ⟨rfl, rfl⟩ := hw3
    have hP : va_P D vwCl [(q_1, .inr (3, [.ref q_2, .ref q_7, .ref q_8, .ref q_9, .ref q_10, .ref q_11])), (q_2, .inr (6, [.int 0, .ref q_12, .ref q_13, .ref q_14, .ref q_15, .ref q_16, .int x_4, .ref q_17, .int x_5, .ref q_18, .ref q_19, .ref q_20, .ref q_21, .ref q_22, .ref q_23])), (q_0, .inr (11, [.ref q_1, .ref q_3, .ref q_4, .ref q_5, .ref q_6, .int (-1)]))] H := hP
    have hD : va_D A [(q_1, .inr (3, [.ref q_2, .ref q_7, .ref q_8, .ref q_9, .ref q_10, .ref q_11])), (q_2, .inr (6, [.int 0, .ref q_12, .ref q_13, .ref q_14, .ref q_15, .ref q_16, .int x_4, .ref q_17, .int x_5, .ref q_18, .ref q_19, .ref q_20, .ref q_21, .ref q_22, .ref q_23])), (q_0, .inr (11, [.ref q_1, .ref q_3, .ref q_4, .ref q_5, .ref q_6, .int (-1)]))] := hD
    exact z_iret C0 hr hlk rfl hK hP hD hS (0, fun _ => 0) (Or.inl ⟨rfl, rfl, (Or.inl c1)⟩) [] rfl rfl rfl dX11_visit_36
  · refine lv_if_ne (tgt := 31) hx hb dX11_visit_17 (by decide) (fun c4 => absurd (by decide) c4) (fun _ => ?_)
    refine lv_iload_n hx hb dX11_visit_20 rfl (lv_at hl 4 rfl) ?_
    refine lv_iconst (v := 1) hx hb dX11_visit_21 (by decide) ?_
    refine lv_sipush (v := 1000) hx hb dX11_visit_22 (by decide) ?_
    refine z_bi0 (z_runS (As := [.int x_2, .int 1, .int 1000]) (rest := []) C0 (c_X11_isOutside_1 l D k x_2 1 1000 _) okS_X11_isOutside kM_X11_47 rfl (z_p0 hK hN) rfl hl.1 rfl (Nat.le_of_ble_eq_true rfl) dX11_visit_25 rfl) hP hS hA (fun r5 u5 H locs hw5 hP hS => ?_)
    obtain ⟨i5, a5⟩ := u5
    dsimp only at hw5
    rcases hw5 with ⟨rfl, rfl, c5⟩ | ⟨rfl, rfl, c5⟩
    · refine lv_if_eq (tgt := 37) hx hb dX11_visit_28 (by decide) (fun c6 => absurd c6 (by decide)) (fun _ => ?_)
      refine lv_aload_n hx hb dX11_visit_31 rfl (lv_at hl 1 rfl) ?_
      refine lv_iconst (v := (-1)) hx hb dX11_visit_32 (by decide) ?_
      refine z_bi (wr := [(q_1, .inr (3, [.ref q_2, .ref q_7, .ref q_8, .ref q_9, .ref q_10, .ref q_11])), (q_2, .inr (6, [.int 0, .ref q_12, .ref q_13, .ref q_14, .ref q_15, .ref q_16, .int x_4, .ref q_17, .int x_5, .ref q_18, .ref q_19, .ref q_20, .ref q_21, .ref q_22, .ref q_23]))]) (z_runV (C := RX11) (As := [.int (-1)]) (rest := []) C0 (c_X11_answer_1 l D k q_0 q_1 q_3 q_4 q_5 q_6 x_3 _) okV_X11_answer kM_X11_55 rfl (z_pV (q0 := 0) hK hN hP hD [0] rfl rfl rfl rfl rfl) rfl hl.1 rfl (Nat.le_of_ble_eq_true rfl) dX11_visit_33 rfl) hP hD hS hA [0] [1, 2] rfl rfl rfl rfl (fun r7 u7 H locs hw7 hP hD hS => ?_)
      obtain ⟨i7, a7⟩ := u7
      dsimp only at hw7
      obtain ⟨rfl, rfl⟩ := hw7
      have hP : va_P D vwCl [(q_1, .inr (3, [.ref q_2, .ref q_7, .ref q_8, .ref q_9, .ref q_10, .ref q_11])), (q_2, .inr (6, [.int 0, .ref q_12, .ref q_13, .ref q_14, .ref q_15, .ref q_16, .int x_4, .ref q_17, .int x_5, .ref q_18, .ref q_19, .ref q_20, .ref q_21, .ref q_22, .ref q_23])), (q_0, .inr (11, [.ref q_1, .ref q_3, .ref q_4, .ref q_5, .ref q_6, .int (-1)]))] H := hP
      have hD : va_D A [(q_1, .inr (3, [.ref q_2, .ref q_7, .ref q_8, .ref q_9, .ref q_10, .ref q_11])), (q_2, .inr (6, [.int 0, .ref q_12, .ref q_13, .ref q_14, .ref q_15, .ref q_16, .int x_4, .ref q_17, .int x_5, .ref q_18, .ref q_19, .ref q_20, .ref q_21, .ref q_22, .ref q_23])), (q_0, .inr (11, [.ref q_1, .ref q_3, .ref q_4, .ref q_5, .ref q_6, .int (-1)]))] := hD
      exact z_iret C0 hr hlk rfl hK hP hD hS (0, fun _ => 0) (Or.inl ⟨rfl, rfl, (Or.inr (⟨c1, c5⟩))⟩) [] rfl rfl rfl dX11_visit_36
    · refine lv_if_eq (tgt := 37) hx hb dX11_visit_28 (by decide) (fun _ => ?_) (fun c8 => absurd (by decide) c8)
      refine lv_aload_n hx hb dX11_visit_37 rfl (lv_at hl 1 rfl) ?_
      refine va_get (D := D) (ci := 11) (v := .ref q_1) (C := RX11) (T := TX11) (N := 6) hx hb hts inX11 hown hK hP 0 rfl rfl 0 (by decide) (hts _ kF_X11_12) (fun _ h9 => h9) rfl dX11_visit_38 ?_
      refine va_get (D := D) (ci := 3) (v := .ref q_2) (C := RX3) (T := TX3) (N := 6) hx hb hts inX3 hown hK hP 1 rfl rfl 0 (by decide) (hts _ kF_X11_43) (fun _ h9 => h9) rfl dX11_visit_41 ?_
      refine lv_iload_n hx hb dX11_visit_44 rfl (lv_at hl 2 rfl) ?_
      refine z_bi (wr := [(q_0, .inr (11, [.ref q_1, .ref q_3, .ref q_4, .ref q_5, .ref q_6, .int x_3])), (q_1, .inr (3, [.ref q_2, .ref q_7, .ref q_8, .ref q_9, .ref q_10, .ref q_11]))]) (z_runV (C := RX6) (As := [.int x_0]) (rest := []) C0 (c_X6_isNoChild_1 l D k q_2 q_12 q_13 q_14 q_15 q_16 q_17 q_18 q_19 q_20 q_21 q_22 q_23 x_0 x_4 x_5 _) okV_X6_isNoChild kM_X11_90 rfl (z_pV (q0 := 2) hK hN hP hD [2] rfl rfl rfl rfl rfl) rfl hl.1 rfl (Nat.le_of_ble_eq_true rfl) dX11_visit_45 rfl) hP hD hS hA [2] [0, 1] rfl rfl rfl rfl (fun r9 u9 H locs hw9 hP hD hS => ?_)
      obtain ⟨i9, a9⟩ := u9
      dsimp only at hw9
      obtain ⟨rfl, rfl⟩ := hw9
      have hP : va_P D vwCl [(q_0, .inr (11, [.ref q_1, .ref q_3, .ref q_4, .ref q_5, .ref q_6, .int x_3])), (q_1, .inr (3, [.ref q_2, .ref q_7, .ref q_8, .ref q_9, .ref q_10, .ref q_11])), (q_2, .inr (6, [.int 0, .ref q_12, .ref q_13, .ref q_14, .ref q_15, .ref q_16, .int x_4, .ref q_17, .int x_5, .ref q_18, .ref q_19, .ref q_20, .ref q_21, .ref q_22, .ref q_23]))] H := hP
      have hD : va_D A [(q_0, .inr (11, [.ref q_1, .ref q_3, .ref q_4, .ref q_5, .ref q_6, .int x_3])), (q_1, .inr (3, [.ref q_2, .ref q_7, .ref q_8, .ref q_9, .ref q_10, .ref q_11])), (q_2, .inr (6, [.int 0, .ref q_12, .ref q_13, .ref q_14, .ref q_15, .ref q_16, .int x_4, .ref q_17, .int x_5, .ref q_18, .ref q_19, .ref q_20, .ref q_21, .ref q_22, .ref q_23]))] := hD
      refine lv_if_eq (tgt := 58) hx hb dX11_visit_48 (by decide) (fun c10 => absurd c10 (by decide)) (fun _ => ?_)
      refine lv_aload_n hx hb dX11_visit_51 rfl (lv_at hl 1 rfl) ?_
      refine lv_bipush (v := (-2)) hx hb dX11_visit_52 (by decide) ?_
      refine z_bi (wr := [(q_1, .inr (3, [.ref q_2, .ref q_7, .ref q_8, .ref q_9, .ref q_10, .ref q_11])), (q_2, .inr (6, [.int 0, .ref q_12, .ref q_13, .ref q_14, .ref q_15, .ref q_16, .int x_4, .ref q_17, .int x_5, .ref q_18, .ref q_19, .ref q_20, .ref q_21, .ref q_22, .ref q_23]))]) (z_runV (C := RX11) (As := [.int (-2)]) (rest := []) C0 (c_X11_answer_3 l D k q_0 q_1 q_3 q_4 q_5 q_6 x_3 _) okV_X11_answer kM_X11_55 rfl (z_pV (q0 := 0) hK hN hP hD [0] rfl rfl rfl rfl rfl) rfl hl.1 rfl (Nat.le_of_ble_eq_true rfl) dX11_visit_54 rfl) hP hD hS hA [0] [1, 2] rfl rfl rfl rfl (fun r11 u11 H locs hw11 hP hD hS => ?_)
      obtain ⟨i11, a11⟩ := u11
      dsimp only at hw11
      obtain ⟨rfl, rfl⟩ := hw11
      have hP : va_P D vwCl [(q_1, .inr (3, [.ref q_2, .ref q_7, .ref q_8, .ref q_9, .ref q_10, .ref q_11])), (q_2, .inr (6, [.int 0, .ref q_12, .ref q_13, .ref q_14, .ref q_15, .ref q_16, .int x_4, .ref q_17, .int x_5, .ref q_18, .ref q_19, .ref q_20, .ref q_21, .ref q_22, .ref q_23])), (q_0, .inr (11, [.ref q_1, .ref q_3, .ref q_4, .ref q_5, .ref q_6, .int (-2)]))] H := hP
      have hD : va_D A [(q_1, .inr (3, [.ref q_2, .ref q_7, .ref q_8, .ref q_9, .ref q_10, .ref q_11])), (q_2, .inr (6, [.int 0, .ref q_12, .ref q_13, .ref q_14, .ref q_15, .ref q_16, .int x_4, .ref q_17, .int x_5, .ref q_18, .ref q_19, .ref q_20, .ref q_21, .ref q_22, .ref q_23])), (q_0, .inr (11, [.ref q_1, .ref q_3, .ref q_4, .ref q_5, .ref q_6, .int (-2)]))] := hD
      exact z_iret C0 hr hlk rfl hK hP hD hS (1, fun _ => 0) (Or.inr (⟨rfl, rfl, ⟨c1, c5⟩⟩)) [] rfl rfl rfl dX11_visit_57

set_option maxHeartbeats 4000000 in
set_option maxRecDepth 100000 in
theorem c_X12_visit_1 (l : Launch) (D : va_G) (k : Nat → ClassId) (q_0 : Nat) (q_1 : Nat) (q_2 : Nat) (q_3 : Nat) (q_4 : Nat) (q_5 : Nat) (q_6 : Nat) (q_7 : Nat) (q_8 : Nat) (q_9 : Nat) (q_10 : Nat) (q_11 : Nat) (q_12 : Nat) (q_13 : Nat) (q_14 : Nat) (q_15 : Nat) (q_16 : Nat) (q_17 : Nat) (q_18 : Nat) (q_19 : Nat) (q_20 : Nat) (q_21 : Nat) (q_22 : Nat) (q_23 : Nat) (q_24 : Nat) (q_25 : Nat) (x_0 : Int32) (x_1 : Int32) (x_2 : Int32) (x_3 : Int32) (x_4 : Int32) (x_5 : Int32) (x_6 : Int32) (x_7 : Int32) (x_8 : Int32) (x_9 : Int32) (g_10 : Int64) (x_11 : Int32) (x_12 : Int32) (x_13 : Int32) (x_14 : Int32) (x_15 : Int32) (x_16 : Int32) (x_17 : Int32) (x_18 : Int32) (g_19 : Int64) (g_20 : Int64) (x_21 : Int32) (x_22 : Int32) (x_23 : Int32) (x_24 : Int32) (x_25 : Int32) (x_26 : Int32) (x_27 : Int32) (x_28 : Int32) (x_29 : Int32) (x_30 : Int32) (x_31 : Int32) (x_32 : Int32) (x_33 : Int32) : zMi l yX12_visit cX12_visit 5 (some .int) ({ frames := 2, cells := 0, slots := 0, locals := 46 }) D k [.ref q_0, .int x_0, .int x_1, .int x_2] [(q_0, .inr (12, [.int x_3, .int x_4, .ref q_1, .ref q_2, .ref q_3, .int x_5, .ref q_4, .ref q_5, .ref q_6, .ref q_7, .ref q_8, .int x_6, .int x_7, .int x_8, .int x_9, .long g_10, .int x_11, .int x_12, .int x_13, .ref q_9, .int x_14, .ref q_10, .ref q_11, .int x_15, .ref q_12, .ref q_13, .int x_16, .int x_17, .ref q_14, .ref q_15, .ref q_16, .ref q_17, .int x_18, .long g_19, .long g_20, .int x_21, .int x_22, .int x_23, .int x_24, .ref q_18, .ref q_19, .int x_25, .int x_26, .int x_27, .int x_28, .ref q_20, .ref q_21, .int x_29, .int x_30, .ref q_22, .ref q_23, .ref q_24, .ref q_25, .int x_31, .int x_32, .int x_33])), (q_1, .inl (k 0, 27101, .inl (fun _ => 0)))] (fun r u => (u.1 = 0 ∧ r = (-1) ∧ (((((Int32.toInt64 x_1) < 1) ∨ (¬ (Int32.toInt64 x_1) < 1 ∧ (200 : Int64) < (Int32.toInt64 x_1)))) ∨ (((¬ (Int32.toInt64 x_1) < 1 ∧ ¬ (200 : Int64) < (Int32.toInt64 x_1))) ∧ (((Int32.toInt64 x_2) < 1) ∨ (¬ (Int32.toInt64 x_2) < 1 ∧ (1000 : Int64) < (Int32.toInt64 x_2)))))) ∨ (u.1 = 1 ∧ r = (-2) ∧ ((((¬ (Int32.toInt64 x_1) < 1 ∧ ¬ (200 : Int64) < (Int32.toInt64 x_1))) ∧ ((¬ (Int32.toInt64 x_2) < 1 ∧ ¬ (1000 : Int64) < (Int32.toInt64 x_2))))))) (fun u => []) := by
  refine zMi_of (own := RX12) (by decide +kernel) rfl (Nat.le_of_ble_eq_true rfl) ?_
  intro p e s m args below meth c A ls C0 hr hlk hin hP hD hS hA hK hN hl
  have hx := C0.1
  have hb := C0.2.1
  have hml := C0.2.2.1
  have hown := C0.2.2.2.1
  have hts := C0.2.2.2.2
  have hl : lv_has ls 5 [(0, .ref q_0), (1, .int x_0), (2, .int x_1), (3, .int x_2)] := hl
  have hP : va_P D vwCl [(q_0, .inr (12, [.int x_3, .int x_4, .ref q_1, .ref q_2, .ref q_3, .int x_5, .ref q_4, .ref q_5, .ref q_6, .ref q_7, .ref q_8, .int x_6, .int x_7, .int x_8, .int x_9, .long g_10, .int x_11, .int x_12, .int x_13, .ref q_9, .int x_14, .ref q_10, .ref q_11, .int x_15, .ref q_12, .ref q_13, .int x_16, .int x_17, .ref q_14, .ref q_15, .ref q_16, .ref q_17, .int x_18, .long g_19, .long g_20, .int x_21, .int x_22, .int x_23, .int x_24, .ref q_18, .ref q_19, .int x_25, .int x_26, .int x_27, .int x_28, .ref q_20, .ref q_21, .int x_29, .int x_30, .ref q_22, .ref q_23, .ref q_24, .ref q_25, .int x_31, .int x_32, .int x_33])), (q_1, .inl (k 0, 27101, .inl (fun _ => 0)))] s.heap := hP
  refine lv_aload_n hx hb dX12_visit_0 rfl (lv_at hl 0 rfl) ?_
  refine lv_iconst (v := 0) hx hb dX12_visit_1 (by decide) ?_
  refine va_put (D := D) (ci := 12) (v := .int 0) (ty := .int) (C := RX12) (T := TX12) (N := 56) hx hb hts inX12 tyX12 tyX12_ok nmX12 hown hK hP hD hS 0 rfl rfl 0 (by decide) (hts _ kF_X12_92) (fun _ h9 => h9) rfl (by decide +kernel) rfl rfl (Nat.le_of_ble_eq_true rfl) dX12_visit_2 (fun H locs hP hD hS => ?_)
  have hP : va_P D vwCl [(q_0, .inr (12, [.int 0, .int x_4, .ref q_1, .ref q_2, .ref q_3, .int x_5, .ref q_4, .ref q_5, .ref q_6, .ref q_7, .ref q_8, .int x_6, .int x_7, .int x_8, .int x_9, .long g_10, .int x_11, .int x_12, .int x_13, .ref q_9, .int x_14, .ref q_10, .ref q_11, .int x_15, .ref q_12, .ref q_13, .int x_16, .int x_17, .ref q_14, .ref q_15, .ref q_16, .ref q_17, .int x_18, .long g_19, .long g_20, .int x_21, .int x_22, .int x_23, .int x_24, .ref q_18, .ref q_19, .int x_25, .int x_26, .int x_27, .int x_28, .ref q_20, .ref q_21, .int x_29, .int x_30, .ref q_22, .ref q_23, .ref q_24, .ref q_25, .int x_31, .int x_32, .int x_33])), (q_1, .inl (k 0, 27101, .inl (fun _ => 0)))] H := hP
  have hD : va_D A [(q_0, .inr (12, [.int 0, .int x_4, .ref q_1, .ref q_2, .ref q_3, .int x_5, .ref q_4, .ref q_5, .ref q_6, .ref q_7, .ref q_8, .int x_6, .int x_7, .int x_8, .int x_9, .long g_10, .int x_11, .int x_12, .int x_13, .ref q_9, .int x_14, .ref q_10, .ref q_11, .int x_15, .ref q_12, .ref q_13, .int x_16, .int x_17, .ref q_14, .ref q_15, .ref q_16, .ref q_17, .int x_18, .long g_19, .long g_20, .int x_21, .int x_22, .int x_23, .int x_24, .ref q_18, .ref q_19, .int x_25, .int x_26, .int x_27, .int x_28, .ref q_20, .ref q_21, .int x_29, .int x_30, .ref q_22, .ref q_23, .ref q_24, .ref q_25, .int x_31, .int x_32, .int x_33])), (q_1, .inl (k 0, 27101, .inl (fun _ => 0)))] := hD
  refine lv_iload_n hx hb dX12_visit_5 rfl (lv_at hl 2 rfl) ?_
  refine lv_i2l (v := (Int32.toInt64 x_1)) hx hb dX12_visit_6 rfl ?_
  refine lv_lconst (v := 1) hx hb dX12_visit_7 (by decide) ?_
  refine lv_ldc2 hx hb hown (hts _ kL_X12_524) dX12_visit_8 ?_
  refine z_bi0 (z_runS (As := [.long (Int32.toInt64 x_1), .long 1, .long 200]) (rest := []) C0 (c_X12_in_1 l D k (Int32.toInt64 x_1) 1 200 _) okS_X12_in kM_X12_100 rfl (z_p0 hK hN) rfl hl.1 rfl (Nat.le_of_ble_eq_true rfl) dX12_visit_11 rfl) hP hS hA (fun r1 u1 H locs hw1 hP hS => ?_)
  obtain ⟨i1, a1⟩ := u1
  dsimp only at hw1
  rcases hw1 with ⟨rfl, rfl, c1⟩ | ⟨rfl, rfl, c1⟩
  · refine lv_if_eq (tgt := 29) hx hb dX12_visit_14 (by decide) (fun _ => ?_) (fun c2 => absurd (by decide) c2)
    refine lv_aload_n hx hb dX12_visit_29 rfl (lv_at hl 0 rfl) ?_
    refine lv_iconst (v := (-1)) hx hb dX12_visit_30 (by decide) ?_
    refine z_bi (wr := [(q_1, .inl (k 0, 27101, .inl (fun _ => 0)))]) (z_runV (C := RX12) (As := [.int (-1)]) (rest := []) C0 (c_X12_told_1 l D k q_0 q_1 q_2 q_3 q_4 q_5 q_6 q_7 q_8 q_9 q_10 q_11 q_12 q_13 q_14 q_15 q_16 q_17 q_18 q_19 q_20 q_21 q_22 q_23 q_24 q_25 0 x_4 x_5 x_6 x_7 x_8 x_9 g_10 x_11 x_12 x_13 x_14 x_15 x_16 x_17 x_18 g_19 g_20 x_21 x_22 x_23 x_24 x_25 x_26 x_27 x_28 x_29 x_30 x_31 x_32 x_33 _) okV_X12_told kM_X12_106 rfl (z_pV (q0 := 0) hK hN hP hD [0] rfl rfl rfl rfl rfl) rfl hl.1 rfl (Nat.le_of_ble_eq_true rfl) dX12_visit_31 rfl) hP hD hS hA [0] [1] rfl rfl rfl rfl (fun r3 u3 H locs hw3 hP hD hS => ?_)
    obtain ⟨i3, a3⟩ := u3
    dsimp only at hw3
    obtain ⟨rfl, rfl⟩ := hw3
    have hP : va_P D vwCl [(q_1, .inl (k 0, 27101, .inl (fun _ => 0))), (q_0, .inr (12, [.int 0, .int (-1), .ref q_1, .ref q_2, .ref q_3, .int x_5, .ref q_4, .ref q_5, .ref q_6, .ref q_7, .ref q_8, .int x_6, .int x_7, .int x_8, .int x_9, .long g_10, .int x_11, .int x_12, .int x_13, .ref q_9, .int x_14, .ref q_10, .ref q_11, .int x_15, .ref q_12, .ref q_13, .int x_16, .int x_17, .ref q_14, .ref q_15, .ref q_16, .ref q_17, .int x_18, .long g_19, .long g_20, .int x_21, .int x_22, .int x_23, .int x_24, .ref q_18, .ref q_19, .int x_25, .int x_26, .int x_27, .int x_28, .ref q_20, .ref q_21, .int x_29, .int x_30, .ref q_22, .ref q_23, .ref q_24, .ref q_25, .int x_31, .int x_32, .int x_33]))] H := hP
    have hD : va_D A [(q_1, .inl (k 0, 27101, .inl (fun _ => 0))), (q_0, .inr (12, [.int 0, .int (-1), .ref q_1, .ref q_2, .ref q_3, .int x_5, .ref q_4, .ref q_5, .ref q_6, .ref q_7, .ref q_8, .int x_6, .int x_7, .int x_8, .int x_9, .long g_10, .int x_11, .int x_12, .int x_13, .ref q_9, .int x_14, .ref q_10, .ref q_11, .int x_15, .ref q_12, .ref q_13, .int x_16, .int x_17, .ref q_14, .ref q_15, .ref q_16, .ref q_17, .int x_18, .long g_19, .long g_20, .int x_21, .int x_22, .int x_23, .int x_24, .ref q_18, .ref q_19, .int x_25, .int x_26, .int x_27, .int x_28, .ref q_20, .ref q_21, .int x_29, .int x_30, .ref q_22, .ref q_23, .ref q_24, .ref q_25, .int x_31, .int x_32, .int x_33]))] := hD
    exact z_iret C0 hr hlk rfl hK hP hD hS (0, fun _ => 0) (Or.inl ⟨rfl, rfl, (Or.inl c1)⟩) [] rfl rfl rfl dX12_visit_34
  · refine lv_if_eq (tgt := 29) hx hb dX12_visit_14 (by decide) (fun c4 => absurd c4 (by decide)) (fun _ => ?_)
    refine lv_iload_n hx hb dX12_visit_17 rfl (lv_at hl 3 rfl) ?_
    refine lv_i2l (v := (Int32.toInt64 x_2)) hx hb dX12_visit_18 rfl ?_
    refine lv_lconst (v := 1) hx hb dX12_visit_19 (by decide) ?_
    refine lv_ldc2 hx hb hown (hts _ kL_X12_526) dX12_visit_20 ?_
    refine z_bi0 (z_runS (As := [.long (Int32.toInt64 x_2), .long 1, .long 1000]) (rest := []) C0 (c_X12_in_1 l D k (Int32.toInt64 x_2) 1 1000 _) okS_X12_in kM_X12_100 rfl (z_p0 hK hN) rfl hl.1 rfl (Nat.le_of_ble_eq_true rfl) dX12_visit_23 rfl) hP hS hA (fun r5 u5 H locs hw5 hP hS => ?_)
    obtain ⟨i5, a5⟩ := u5
    dsimp only at hw5
    rcases hw5 with ⟨rfl, rfl, c5⟩ | ⟨rfl, rfl, c5⟩
    · refine lv_if_ne (tgt := 35) hx hb dX12_visit_26 (by decide) (fun c6 => absurd (by decide) c6) (fun _ => ?_)
      refine lv_aload_n hx hb dX12_visit_29 rfl (lv_at hl 0 rfl) ?_
      refine lv_iconst (v := (-1)) hx hb dX12_visit_30 (by decide) ?_
      refine z_bi (wr := [(q_1, .inl (k 0, 27101, .inl (fun _ => 0)))]) (z_runV (C := RX12) (As := [.int (-1)]) (rest := []) C0 (c_X12_told_1 l D k q_0 q_1 q_2 q_3 q_4 q_5 q_6 q_7 q_8 q_9 q_10 q_11 q_12 q_13 q_14 q_15 q_16 q_17 q_18 q_19 q_20 q_21 q_22 q_23 q_24 q_25 0 x_4 x_5 x_6 x_7 x_8 x_9 g_10 x_11 x_12 x_13 x_14 x_15 x_16 x_17 x_18 g_19 g_20 x_21 x_22 x_23 x_24 x_25 x_26 x_27 x_28 x_29 x_30 x_31 x_32 x_33 _) okV_X12_told kM_X12_106 rfl (z_pV (q0 := 0) hK hN hP hD [0] rfl rfl rfl rfl rfl) rfl hl.1 rfl (Nat.le_of_ble_eq_true rfl) dX12_visit_31 rfl) hP hD hS hA [0] [1] rfl rfl rfl rfl (fun r7 u7 H locs hw7 hP hD hS => ?_)
      obtain ⟨i7, a7⟩ := u7
      dsimp only at hw7
      obtain ⟨rfl, rfl⟩ := hw7
      have hP : va_P D vwCl [(q_1, .inl (k 0, 27101, .inl (fun _ => 0))), (q_0, .inr (12, [.int 0, .int (-1), .ref q_1, .ref q_2, .ref q_3, .int x_5, .ref q_4, .ref q_5, .ref q_6, .ref q_7, .ref q_8, .int x_6, .int x_7, .int x_8, .int x_9, .long g_10, .int x_11, .int x_12, .int x_13, .ref q_9, .int x_14, .ref q_10, .ref q_11, .int x_15, .ref q_12, .ref q_13, .int x_16, .int x_17, .ref q_14, .ref q_15, .ref q_16, .ref q_17, .int x_18, .long g_19, .long g_20, .int x_21, .int x_22, .int x_23, .int x_24, .ref q_18, .ref q_19, .int x_25, .int x_26, .int x_27, .int x_28, .ref q_20, .ref q_21, .int x_29, .int x_30, .ref q_22, .ref q_23, .ref q_24, .ref q_25, .int x_31, .int x_32, .int x_33]))] H := hP
      have hD : va_D A [(q_1, .inl (k 0, 27101, .inl (fun _ => 0))), (q_0, .inr (12, [.int 0, .int (-1), .ref q_1, .ref q_2, .ref q_3, .int x_5, .ref q_4, .ref q_5, .ref q_6, .ref q_7, .ref q_8, .int x_6, .int x_7, .int x_8, .int x_9, .long g_10, .int x_11, .int x_12, .int x_13, .ref q_9, .int x_14, .ref q_10, .ref q_11, .int x_15, .ref q_12, .ref q_13, .int x_16, .int x_17, .ref q_14, .ref q_15, .ref q_16, .ref q_17, .int x_18, .long g_19, .long g_20, .int x_21, .int x_22, .int x_23, .int x_24, .ref q_18, .ref q_19, .int x_25, .int x_26, .int x_27, .int x_28, .ref q_20, .ref q_21, .int x_29, .int x_30, .ref q_22, .ref q_23, .ref q_24, .ref q_25, .int x_31, .int x_32, .int x_33]))] := hD
      exact z_iret C0 hr hlk rfl hK hP hD hS (0, fun _ => 0) (Or.inl ⟨rfl, rfl, (Or.inr (⟨c1, c5⟩))⟩) [] rfl rfl rfl dX12_visit_34
    · refine lv_if_ne (tgt := 35) hx hb dX12_visit_26 (by decide) (fun _ => ?_) (fun c8 => absurd c8 (by decide))
      refine lv_aload_n hx hb dX12_visit_35 rfl (lv_at hl 0 rfl) ?_
      refine lv_iload_n hx hb dX12_visit_36 rfl (lv_at hl 1 rfl) ?_
      refine z_bi (wr := []) (z_runV (C := RX12) (As := [.int x_0]) (rest := []) C0 (c_X12_isChild_1 l D k q_0 q_1 q_2 q_3 q_4 q_5 q_6 q_7 q_8 q_9 q_10 q_11 q_12 q_13 q_14 q_15 q_16 q_17 q_18 q_19 q_20 q_21 q_22 q_23 q_24 q_25 x_0 0 x_4 x_5 x_6 x_7 x_8 x_9 g_10 x_11 x_12 x_13 x_14 x_15 x_16 x_17 x_18 g_19 g_20 x_21 x_22 x_23 x_24 x_25 x_26 x_27 x_28 x_29 x_30 x_31 x_32 x_33 _) okV_X12_isChild kM_X12_138 rfl (z_pV (q0 := 0) hK hN hP hD [0, 1] rfl rfl rfl rfl rfl) rfl hl.1 rfl (Nat.le_of_ble_eq_true rfl) dX12_visit_37 rfl) hP hD hS hA [0, 1] [] rfl rfl rfl rfl (fun r9 u9 H locs hw9 hP hD hS => ?_)
      obtain ⟨i9, a9⟩ := u9
      dsimp only at hw9
      obtain ⟨rfl, rfl⟩ := hw9
      have hP : va_P D vwCl [(q_0, .inr (12, [.int 0, .int x_4, .ref q_1, .ref q_2, .ref q_3, .int x_5, .ref q_4, .ref q_5, .ref q_6, .ref q_7, .ref q_8, .int x_6, .int x_7, .int x_8, .int x_9, .long g_10, .int x_11, .int x_12, .int x_13, .ref q_9, .int x_14, .ref q_10, .ref q_11, .int x_15, .ref q_12, .ref q_13, .int x_16, .int x_17, .ref q_14, .ref q_15, .ref q_16, .ref q_17, .int x_18, .long g_19, .long g_20, .int x_21, .int x_22, .int x_23, .int x_24, .ref q_18, .ref q_19, .int x_25, .int x_26, .int x_27, .int x_28, .ref q_20, .ref q_21, .int x_29, .int x_30, .ref q_22, .ref q_23, .ref q_24, .ref q_25, .int x_31, .int x_32, .int x_33])), (q_1, .inl (k 0, 27101, .inl (fun _ => 0)))] H := hP
      have hD : va_D A [(q_0, .inr (12, [.int 0, .int x_4, .ref q_1, .ref q_2, .ref q_3, .int x_5, .ref q_4, .ref q_5, .ref q_6, .ref q_7, .ref q_8, .int x_6, .int x_7, .int x_8, .int x_9, .long g_10, .int x_11, .int x_12, .int x_13, .ref q_9, .int x_14, .ref q_10, .ref q_11, .int x_15, .ref q_12, .ref q_13, .int x_16, .int x_17, .ref q_14, .ref q_15, .ref q_16, .ref q_17, .int x_18, .long g_19, .long g_20, .int x_21, .int x_22, .int x_23, .int x_24, .ref q_18, .ref q_19, .int x_25, .int x_26, .int x_27, .int x_28, .ref q_20, .ref q_21, .int x_29, .int x_30, .ref q_22, .ref q_23, .ref q_24, .ref q_25, .int x_31, .int x_32, .int x_33])), (q_1, .inl (k 0, 27101, .inl (fun _ => 0)))] := hD
      refine lv_if_ne (tgt := 50) hx hb dX12_visit_40 (by decide) (fun c10 => absurd (by decide) c10) (fun _ => ?_)
      refine lv_aload_n hx hb dX12_visit_43 rfl (lv_at hl 0 rfl) ?_
      refine lv_bipush (v := (-2)) hx hb dX12_visit_44 (by decide) ?_
      refine z_bi (wr := [(q_1, .inl (k 0, 27101, .inl (fun _ => 0)))]) (z_runV (C := RX12) (As := [.int (-2)]) (rest := []) C0 (c_X12_told_3 l D k q_0 q_1 q_2 q_3 q_4 q_5 q_6 q_7 q_8 q_9 q_10 q_11 q_12 q_13 q_14 q_15 q_16 q_17 q_18 q_19 q_20 q_21 q_22 q_23 q_24 q_25 0 x_4 x_5 x_6 x_7 x_8 x_9 g_10 x_11 x_12 x_13 x_14 x_15 x_16 x_17 x_18 g_19 g_20 x_21 x_22 x_23 x_24 x_25 x_26 x_27 x_28 x_29 x_30 x_31 x_32 x_33 _) okV_X12_told kM_X12_106 rfl (z_pV (q0 := 0) hK hN hP hD [0] rfl rfl rfl rfl rfl) rfl hl.1 rfl (Nat.le_of_ble_eq_true rfl) dX12_visit_46 rfl) hP hD hS hA [0] [1] rfl rfl rfl rfl (fun r11 u11 H locs hw11 hP hD hS => ?_)
      obtain ⟨i11, a11⟩ := u11
      dsimp only at hw11
      obtain ⟨rfl, rfl⟩ := hw11
      have hP : va_P D vwCl [(q_1, .inl (k 0, 27101, .inl (fun _ => 0))), (q_0, .inr (12, [.int 0, .int (-2), .ref q_1, .ref q_2, .ref q_3, .int x_5, .ref q_4, .ref q_5, .ref q_6, .ref q_7, .ref q_8, .int x_6, .int x_7, .int x_8, .int x_9, .long g_10, .int x_11, .int x_12, .int x_13, .ref q_9, .int x_14, .ref q_10, .ref q_11, .int x_15, .ref q_12, .ref q_13, .int x_16, .int x_17, .ref q_14, .ref q_15, .ref q_16, .ref q_17, .int x_18, .long g_19, .long g_20, .int x_21, .int x_22, .int x_23, .int x_24, .ref q_18, .ref q_19, .int x_25, .int x_26, .int x_27, .int x_28, .ref q_20, .ref q_21, .int x_29, .int x_30, .ref q_22, .ref q_23, .ref q_24, .ref q_25, .int x_31, .int x_32, .int x_33]))] H := hP
      have hD : va_D A [(q_1, .inl (k 0, 27101, .inl (fun _ => 0))), (q_0, .inr (12, [.int 0, .int (-2), .ref q_1, .ref q_2, .ref q_3, .int x_5, .ref q_4, .ref q_5, .ref q_6, .ref q_7, .ref q_8, .int x_6, .int x_7, .int x_8, .int x_9, .long g_10, .int x_11, .int x_12, .int x_13, .ref q_9, .int x_14, .ref q_10, .ref q_11, .int x_15, .ref q_12, .ref q_13, .int x_16, .int x_17, .ref q_14, .ref q_15, .ref q_16, .ref q_17, .int x_18, .long g_19, .long g_20, .int x_21, .int x_22, .int x_23, .int x_24, .ref q_18, .ref q_19, .int x_25, .int x_26, .int x_27, .int x_28, .ref q_20, .ref q_21, .int x_29, .int x_30, .ref q_22, .ref q_23, .ref q_24, .ref q_25, .int x_31, .int x_32, .int x_33]))] := hD
      exact z_iret C0 hr hlk rfl hK hP hD hS (1, fun _ => 0) (Or.inr (⟨rfl, rfl, ⟨c1, c5⟩⟩)) [] rfl rfl rfl dX12_visit_49

set_option maxHeartbeats 4000000 in
set_option maxRecDepth 100000 in
theorem c_X2_noteWays_1 (l : Launch) (D : va_G) (k : Nat → ClassId) (q_0 : Nat) (q_1 : Nat) (q_2 : Nat) (q_3 : Nat) (q_4 : Nat) (q_5 : Nat) (q_6 : Nat) (q_7 : Nat) (q_8 : Nat) (q_9 : Nat) (q_10 : Nat) (q_11 : Nat) (q_12 : Nat) (q_13 : Nat) (q_14 : Nat) (q_15 : Nat) (q_16 : Nat) (q_17 : Nat) (q_18 : Nat) (x_0 : Int32) (x_1 : Int32) (x_2 : Int32) (x_3 : Int32) (x_4 : Int32) (x_5 : Int32) (x_6 : Int32) (x_7 : Int32) (x_8 : Int32) (x_9 : Int32) : zMv l yX2_noteWays cX2_noteWays 6 none ({ frames := 0, cells := 0, slots := 0, locals := 0 }) D k [.ref q_0, .int x_0, .int x_1] [(q_0, .inr (2, [.ref q_2, .ref q_1, .ref q_3, .int x_2, .int x_3, .ref q_4, .ref q_5, .ref q_6, .int x_4, .int x_5, .int x_6, .ref q_7, .ref q_8, .ref q_9])), (q_1, .inr (4, [.int x_7, .ref q_10, .int x_8, .ref q_11, .ref q_12, .int 0, .ref q_13, .ref q_14, .ref q_15, .int x_9, .ref q_16, .ref q_17, .ref q_18]))] (fun u => u.1 = 0) (fun u => [(q_0, .inr (2, [.ref q_2, .ref q_1, .ref q_3, .int x_2, .int x_3, .ref q_4, .ref q_5, .ref q_6, .int x_4, .int x_5, .int x_6, .ref q_7, .ref q_8, .ref q_9])), (q_1, .inr (4, [.int x_7, .ref q_10, .int x_8, .ref q_11, .ref q_12, .int 0, .ref q_13, .ref q_14, .ref q_15, .int x_9, .ref q_16, .ref q_17, .ref q_18]))]) := by
  refine zMv_of (own := RX2) (by decide +kernel) rfl (Nat.le_of_ble_eq_true rfl) ?_
  intro p e s m args below meth c A ls C0 hr hlk hin hP hD hS hA hK hN hl
  have hx := C0.1
  have hb := C0.2.1
  have hml := C0.2.2.1
  have hown := C0.2.2.2.1
  have hts := C0.2.2.2.2
  have hl : lv_has ls 6 [(0, .ref q_0), (1, .int x_0), (2, .int x_1)] := hl
  have hP : va_P D vwCl [(q_0, .inr (2, [.ref q_2, .ref q_1, .ref q_3, .int x_2, .int x_3, .ref q_4, .ref q_5, .ref q_6, .int x_4, .int x_5, .int x_6, .ref q_7, .ref q_8, .ref q_9])), (q_1, .inr (4, [.int x_7, .ref q_10, .int x_8, .ref q_11, .ref q_12, .int 0, .ref q_13, .ref q_14, .ref q_15, .int x_9, .ref q_16, .ref q_17, .ref q_18]))] s.heap := hP
  refine lv_iconst (v := 0) hx hb dX2_noteWays_0 (by decide) ?_
  refine lv_istore_n (lv' := [(3, .int 0), (0, .ref q_0), (1, .int x_0), (2, .int x_1)]) hx hb dX2_noteWays_1 rfl hl (by decide) rfl (fun ls hl => ?_)
  refine lv_iload_n hx hb dX2_noteWays_2 rfl (lv_at hl 0 rfl) ?_
  refine lv_aload_n hx hb dX2_noteWays_3 rfl (lv_at hl 1 rfl) ?_
  refine va_get (D := D) (ci := 2) (v := .ref q_1) (C := RX2) (T := TX2) (N := 14) hx hb hts inX2 hown hK hP 0 rfl rfl 1 (by decide) (hts _ kF_X2_48) (fun _ h9 => h9) rfl dX2_noteWays_4 ?_
  refine va_get (D := D) (ci := 4) (v := .int 0) (C := RX4) (T := TX4) (N := 13) hx hb hts inX4 hown hK hP 1 rfl rfl 5 (by decide) (hts _ kF_X2_97) (fun _ h9 => h9) rfl dX2_noteWays_7 ?_
  refine lv_icmp_ge (tgt := 102) hx hb dX2_noteWays_10 (by decide) (fun _ => ?_) (fun c1 => absurd (by decide) c1)
  exact z_vret C0 hr hlk hK hP hD hS (0, fun _ => 0) rfl [0, 1] rfl rfl rfl dX2_noteWays_102

set_option maxHeartbeats 4000000 in
set_option maxRecDepth 100000 in
theorem c_X2_bestRound_1 (l : Launch) (D : va_G) (k : Nat → ClassId) (q_0 : Nat) (q_1 : Nat) (q_2 : Nat) (q_3 : Nat) (q_4 : Nat) (q_5 : Nat) (q_6 : Nat) (q_7 : Nat) (q_8 : Nat) (q_9 : Nat) (q_10 : Nat) (q_11 : Nat) (q_12 : Nat) (q_13 : Nat) (q_14 : Nat) (q_15 : Nat) (q_16 : Nat) (q_17 : Nat) (q_18 : Nat) (x_0 : Int32) (x_1 : Int32) (x_2 : Int32) (x_3 : Int32) (x_4 : Int32) (x_5 : Int32) (x_6 : Int32) (x_7 : Int32) (x_8 : Int32) (x_9 : Int32) (x_10 : Int32) : zMv l yX2_bestRound cX2_bestRound 7 none ({ frames := 1, cells := 0, slots := 0, locals := 25 }) D k [.ref q_0, .int x_0, .int x_1, .int x_2] [(q_0, .inr (2, [.ref q_2, .ref q_1, .ref q_3, .int x_3, .int x_4, .ref q_4, .ref q_5, .ref q_6, .int x_5, .int x_6, .int x_7, .ref q_7, .ref q_8, .ref q_9])), (q_1, .inr (4, [.int x_8, .ref q_10, .int x_9, .ref q_11, .ref q_12, .int 0, .ref q_13, .ref q_14, .ref q_15, .int x_10, .ref q_16, .ref q_17, .ref q_18]))] (fun u => u.1 = 0) (fun u => [(q_0, .inr (2, [.ref q_2, .ref q_1, .ref q_3, .int x_3, .int x_4, .ref q_4, .ref q_5, .ref q_6, .int 0, .int 0, .int 0, .ref q_7, .ref q_8, .ref q_9])), (q_1, .inr (4, [.int x_8, .ref q_10, .int x_9, .ref q_11, .ref q_12, .int 0, .ref q_13, .ref q_14, .ref q_15, .int x_10, .ref q_16, .ref q_17, .ref q_18]))]) := by
  refine zMv_of (own := RX2) (by decide +kernel) rfl (Nat.le_of_ble_eq_true rfl) ?_
  intro p e s m args below meth c A ls C0 hr hlk hin hP hD hS hA hK hN hl
  have hx := C0.1
  have hb := C0.2.1
  have hml := C0.2.2.1
  have hown := C0.2.2.2.1
  have hts := C0.2.2.2.2
  have hl : lv_has ls 7 [(0, .ref q_0), (1, .int x_0), (2, .int x_1), (3, .int x_2)] := hl
  have hP : va_P D vwCl [(q_0, .inr (2, [.ref q_2, .ref q_1, .ref q_3, .int x_3, .int x_4, .ref q_4, .ref q_5, .ref q_6, .int x_5, .int x_6, .int x_7, .ref q_7, .ref q_8, .ref q_9])), (q_1, .inr (4, [.int x_8, .ref q_10, .int x_9, .ref q_11, .ref q_12, .int 0, .ref q_13, .ref q_14, .ref q_15, .int x_10, .ref q_16, .ref q_17, .ref q_18]))] s.heap := hP
  refine lv_aload_n hx hb dX2_bestRound_0 rfl (lv_at hl 0 rfl) ?_
  refine lv_iload_n hx hb dX2_bestRound_1 rfl (lv_at hl 1 rfl) ?_
  refine lv_iload_n hx hb dX2_bestRound_2 rfl (lv_at hl 2 rfl) ?_
  refine z_bv (wr := []) (z_runV (C := RX2) (As := [.int x_0, .int x_1]) (rest := []) C0 (c_X2_noteWays_1 l D k q_0 q_1 q_2 q_3 q_4 q_5 q_6 q_7 q_8 q_9 q_10 q_11 q_12 q_13 q_14 q_15 q_16 q_17 q_18 x_0 x_1 x_3 x_4 x_5 x_6 x_7 x_8 x_9 x_10 _) okV_X2_noteWays kM_X2_85 rfl (z_pV (q0 := 0) hK hN hP hD [0, 1] rfl rfl rfl rfl rfl) rfl hl.1 rfl (Nat.le_of_ble_eq_true rfl) dX2_bestRound_3 rfl) hP hD hS hA [0, 1] [] rfl rfl rfl rfl (fun u1 H locs hw1 hP hD hS => ?_)
  obtain ⟨i1, a1⟩ := u1
  dsimp only at hw1
  obtain rfl := hw1
  have hP : va_P D vwCl [(q_0, .inr (2, [.ref q_2, .ref q_1, .ref q_3, .int x_3, .int x_4, .ref q_4, .ref q_5, .ref q_6, .int x_5, .int x_6, .int x_7, .ref q_7, .ref q_8, .ref q_9])), (q_1, .inr (4, [.int x_8, .ref q_10, .int x_9, .ref q_11, .ref q_12, .int 0, .ref q_13, .ref q_14, .ref q_15, .int x_10, .ref q_16, .ref q_17, .ref q_18]))] H := hP
  have hD : va_D A [(q_0, .inr (2, [.ref q_2, .ref q_1, .ref q_3, .int x_3, .int x_4, .ref q_4, .ref q_5, .ref q_6, .int x_5, .int x_6, .int x_7, .ref q_7, .ref q_8, .ref q_9])), (q_1, .inr (4, [.int x_8, .ref q_10, .int x_9, .ref q_11, .ref q_12, .int 0, .ref q_13, .ref q_14, .ref q_15, .int x_10, .ref q_16, .ref q_17, .ref q_18]))] := hD
  refine lv_aload_n hx hb dX2_bestRound_6 rfl (lv_at hl 0 rfl) ?_
  refine lv_iconst (v := 0) hx hb dX2_bestRound_7 (by decide) ?_
  refine va_put (D := D) (ci := 2) (v := .int 0) (ty := .int) (C := RX2) (T := TX2) (N := 14) hx hb hts inX2 tyX2 tyX2_ok nmX2 hown hK hP hD hS 0 rfl rfl 8 (by decide) (hts _ kF_X2_88) (fun _ h9 => h9) rfl (by decide +kernel) rfl rfl (Nat.le_of_ble_eq_true rfl) dX2_bestRound_8 (fun H locs hP hD hS => ?_)
  have hP : va_P D vwCl [(q_0, .inr (2, [.ref q_2, .ref q_1, .ref q_3, .int x_3, .int x_4, .ref q_4, .ref q_5, .ref q_6, .int 0, .int x_6, .int x_7, .ref q_7, .ref q_8, .ref q_9])), (q_1, .inr (4, [.int x_8, .ref q_10, .int x_9, .ref q_11, .ref q_12, .int 0, .ref q_13, .ref q_14, .ref q_15, .int x_10, .ref q_16, .ref q_17, .ref q_18]))] H := hP
  have hD : va_D A [(q_0, .inr (2, [.ref q_2, .ref q_1, .ref q_3, .int x_3, .int x_4, .ref q_4, .ref q_5, .ref q_6, .int 0, .int x_6, .int x_7, .ref q_7, .ref q_8, .ref q_9])), (q_1, .inr (4, [.int x_8, .ref q_10, .int x_9, .ref q_11, .ref q_12, .int 0, .ref q_13, .ref q_14, .ref q_15, .int x_10, .ref q_16, .ref q_17, .ref q_18]))] := hD
  refine lv_aload_n hx hb dX2_bestRound_11 rfl (lv_at hl 0 rfl) ?_
  refine lv_iconst (v := 0) hx hb dX2_bestRound_12 (by decide) ?_
  refine va_put (D := D) (ci := 2) (v := .int 0) (ty := .int) (C := RX2) (T := TX2) (N := 14) hx hb hts inX2 tyX2 tyX2_ok nmX2 hown hK hP hD hS 0 rfl rfl 9 (by decide) (hts _ kF_X2_91) (fun _ h9 => h9) rfl (by decide +kernel) rfl rfl (Nat.le_of_ble_eq_true rfl) dX2_bestRound_13 (fun H locs hP hD hS => ?_)
  have hP : va_P D vwCl [(q_0, .inr (2, [.ref q_2, .ref q_1, .ref q_3, .int x_3, .int x_4, .ref q_4, .ref q_5, .ref q_6, .int 0, .int 0, .int x_7, .ref q_7, .ref q_8, .ref q_9])), (q_1, .inr (4, [.int x_8, .ref q_10, .int x_9, .ref q_11, .ref q_12, .int 0, .ref q_13, .ref q_14, .ref q_15, .int x_10, .ref q_16, .ref q_17, .ref q_18]))] H := hP
  have hD : va_D A [(q_0, .inr (2, [.ref q_2, .ref q_1, .ref q_3, .int x_3, .int x_4, .ref q_4, .ref q_5, .ref q_6, .int 0, .int 0, .int x_7, .ref q_7, .ref q_8, .ref q_9])), (q_1, .inr (4, [.int x_8, .ref q_10, .int x_9, .ref q_11, .ref q_12, .int 0, .ref q_13, .ref q_14, .ref q_15, .int x_10, .ref q_16, .ref q_17, .ref q_18]))] := hD
  refine lv_aload_n hx hb dX2_bestRound_16 rfl (lv_at hl 0 rfl) ?_
  refine lv_iconst (v := 0) hx hb dX2_bestRound_17 (by decide) ?_
  refine va_put (D := D) (ci := 2) (v := .int 0) (ty := .int) (C := RX2) (T := TX2) (N := 14) hx hb hts inX2 tyX2 tyX2_ok nmX2 hown hK hP hD hS 0 rfl rfl 10 (by decide) (hts _ kF_X2_94) (fun _ h9 => h9) rfl (by decide +kernel) rfl rfl (Nat.le_of_ble_eq_true rfl) dX2_bestRound_18 (fun H locs hP hD hS => ?_)
  have hP : va_P D vwCl [(q_0, .inr (2, [.ref q_2, .ref q_1, .ref q_3, .int x_3, .int x_4, .ref q_4, .ref q_5, .ref q_6, .int 0, .int 0, .int 0, .ref q_7, .ref q_8, .ref q_9])), (q_1, .inr (4, [.int x_8, .ref q_10, .int x_9, .ref q_11, .ref q_12, .int 0, .ref q_13, .ref q_14, .ref q_15, .int x_10, .ref q_16, .ref q_17, .ref q_18]))] H := hP
  have hD : va_D A [(q_0, .inr (2, [.ref q_2, .ref q_1, .ref q_3, .int x_3, .int x_4, .ref q_4, .ref q_5, .ref q_6, .int 0, .int 0, .int 0, .ref q_7, .ref q_8, .ref q_9])), (q_1, .inr (4, [.int x_8, .ref q_10, .int x_9, .ref q_11, .ref q_12, .int 0, .ref q_13, .ref q_14, .ref q_15, .int x_10, .ref q_16, .ref q_17, .ref q_18]))] := hD
  refine lv_iconst (v := 1) hx hb dX2_bestRound_21 (by decide) ?_
  refine lv_istore (lv' := [(4, .int 1), (0, .ref q_0), (1, .int x_0), (2, .int x_1), (3, .int x_2)]) hx hb dX2_bestRound_22 hl (by decide) rfl (fun ls hl => ?_)
  refine lv_iload hx hb dX2_bestRound_24 (lv_at hl 0 rfl) ?_
  refine lv_iconst (v := 1) hx hb dX2_bestRound_26 (by decide) ?_
  refine lv_aload_n hx hb dX2_bestRound_27 rfl (lv_at hl 1 rfl) ?_
  refine va_get (D := D) (ci := 2) (v := .ref q_1) (C := RX2) (T := TX2) (N := 14) hx hb hts inX2 hown hK hP 0 rfl rfl 1 (by decide) (hts _ kF_X2_48) (fun _ h9 => h9) rfl dX2_bestRound_28 ?_
  refine va_get (D := D) (ci := 4) (v := .int 0) (C := RX4) (T := TX4) (N := 13) hx hb hts inX4 hown hK hP 1 rfl rfl 5 (by decide) (hts _ kF_X2_97) (fun _ h9 => h9) rfl dX2_bestRound_31 ?_
  refine lv_ishl hx hb dX2_bestRound_34 ?_
  refine lv_toc (v := 1) (by decide) ?_
  refine lv_icmp_ge (tgt := 115) hx hb dX2_bestRound_35 (by decide) (fun _ => ?_) (fun c2 => absurd (by decide) c2)
  exact z_vret C0 hr hlk hK hP hD hS (0, fun _ => 0) rfl [0, 1] rfl rfl rfl dX2_bestRound_115

set_option maxHeartbeats 4000000 in
set_option maxRecDepth 100000 in
theorem c_X11_round_1 (l : Launch) (D : va_G) (k : Nat → ClassId) (q_0 : Nat) (q_1 : Nat) (q_2 : Nat) (q_3 : Nat) (q_4 : Nat) (q_5 : Nat) (q_6 : Nat) (q_7 : Nat) (q_8 : Nat) (q_9 : Nat) (q_10 : Nat) (q_11 : Nat) (q_12 : Nat) (q_13 : Nat) (q_14 : Nat) (q_15 : Nat) (q_16 : Nat) (q_17 : Nat) (q_18 : Nat) (q_19 : Nat) (q_20 : Nat) (q_21 : Nat) (q_22 : Nat) (q_23 : Nat) (x_0 : Int32) (x_1 : Int32) (x_2 : Int32) (x_3 : Int32) (x_4 : Int32) (x_5 : Int32) (x_6 : Int32) (x_7 : Int32) (x_8 : Int32) (x_9 : Int32) : zMi l yX11_round cX11_round 5 (some .int) ({ frames := 2, cells := 0, slots := 0, locals := 51 }) D k [.ref q_0, .int x_0, .int x_1, .int x_2, .int x_3] [(q_0, .inr (11, [.ref q_3, .ref q_4, .ref q_5, .ref q_6, .ref q_1, .int x_4])), (q_1, .inr (2, [.ref q_7, .ref q_2, .ref q_8, .int x_5, .int x_6, .ref q_9, .ref q_10, .ref q_11, .int 0, .int 0, .int 0, .ref q_12, .ref q_13, .ref q_14])), (q_2, .inr (4, [.int x_7, .ref q_15, .int x_8, .ref q_16, .ref q_17, .int 0, .ref q_18, .ref q_19, .ref q_20, .int x_9, .ref q_21, .ref q_22, .ref q_23]))] (fun r u => (u.1 = 0 ∧ r = (-1) ∧ ((((((x_0 < 0) ∨ (¬ x_0 < 0 ∧ ¬ x_0 ≤ 99))) ∨ (((¬ x_0 < 0 ∧ x_0 ≤ 99)) ∧ ((x_1 < 0) ∨ (¬ x_1 < 0 ∧ ¬ x_1 ≤ 99))))) ∨ (((((¬ x_0 < 0 ∧ x_0 ≤ 99)) ∧ ((¬ x_1 < 0 ∧ x_1 ≤ 99)))) ∧ ((x_2 < 0) ∨ (¬ x_2 < 0 ∧ ¬ x_2 ≤ 2000))) ∨ (((((¬ x_0 < 0 ∧ x_0 ≤ 99)) ∧ ((¬ x_1 < 0 ∧ x_1 ≤ 99)))) ∧ ((¬ x_2 < 0 ∧ x_2 ≤ 2000)) ∧ ((x_3 < 0) ∨ (¬ x_3 < 0 ∧ ¬ x_3 ≤ 2))))) ∨ (u.1 = 1 ∧ r = 0 ∧ ((((((¬ x_0 < 0 ∧ x_0 ≤ 99)) ∧ ((¬ x_1 < 0 ∧ x_1 ≤ 99)))) ∧ ((¬ x_2 < 0 ∧ x_2 ≤ 2000)) ∧ ((¬ x_3 < 0 ∧ x_3 ≤ 2)) ∧ ¬ x_3 = 0 ∧ ¬ x_3 = 1) ∨ (((((¬ x_0 < 0 ∧ x_0 ≤ 99)) ∧ ((¬ x_1 < 0 ∧ x_1 ≤ 99)))) ∧ ((¬ x_2 < 0 ∧ x_2 ≤ 2000)) ∧ ((¬ x_3 < 0 ∧ x_3 ≤ 2)) ∧ ¬ x_3 = 0 ∧ x_3 = 1) ∨ (((((¬ x_0 < 0 ∧ x_0 ≤ 99)) ∧ ((¬ x_1 < 0 ∧ x_1 ≤ 99)))) ∧ ((¬ x_2 < 0 ∧ x_2 ≤ 2000)) ∧ ((¬ x_3 < 0 ∧ x_3 ≤ 2)) ∧ x_3 = 0)))) (fun u => []) := by
  refine zMi_of (own := RX11) (by decide +kernel) rfl (Nat.le_of_ble_eq_true rfl) ?_
  intro p e s m args below meth c A ls C0 hr hlk hin hP hD hS hA hK hN hl
  have hx := C0.1
  have hb := C0.2.1
  have hml := C0.2.2.1
  have hown := C0.2.2.2.1
  have hts := C0.2.2.2.2
  have hl : lv_has ls 5 [(0, .ref q_0), (1, .int x_0), (2, .int x_1), (3, .int x_2), (4, .int x_3)] := hl
  have hP : va_P D vwCl [(q_0, .inr (11, [.ref q_3, .ref q_4, .ref q_5, .ref q_6, .ref q_1, .int x_4])), (q_1, .inr (2, [.ref q_7, .ref q_2, .ref q_8, .int x_5, .int x_6, .ref q_9, .ref q_10, .ref q_11, .int 0, .int 0, .int 0, .ref q_12, .ref q_13, .ref q_14])), (q_2, .inr (4, [.int x_7, .ref q_15, .int x_8, .ref q_16, .ref q_17, .int 0, .ref q_18, .ref q_19, .ref q_20, .int x_9, .ref q_21, .ref q_22, .ref q_23]))] s.heap := hP
  refine lv_iload_n hx hb dX11_round_0 rfl (lv_at hl 1 rfl) ?_
  refine lv_iload_n hx hb dX11_round_1 rfl (lv_at hl 2 rfl) ?_
  refine z_bi0 (z_runS (As := [.int x_0, .int x_1]) (rest := []) C0 (c_X11_isNoPlace_1 l D k x_0 x_1 _) okS_X11_isNoPlace kM_X11_51 rfl (z_p0 hK hN) rfl hl.1 rfl (Nat.le_of_ble_eq_true rfl) dX11_round_2 rfl) hP hS hA (fun r1 u1 H locs hw1 hP hS => ?_)
  obtain ⟨i1, a1⟩ := u1
  dsimp only at hw1
  rcases hw1 with ⟨rfl, rfl, c1⟩ | ⟨rfl, rfl, c1⟩
  · refine lv_if_ne (tgt := 29) hx hb dX11_round_5 (by decide) (fun _ => ?_) (fun c2 => absurd c2 (by decide))
    refine lv_iconst (v := (-1)) hx hb dX11_round_29 (by decide) ?_
    exact z_iret C0 hr hlk rfl hK hP hD hS (0, fun _ => 0) (Or.inl ⟨rfl, rfl, (Or.inl c1)⟩) [] rfl rfl rfl dX11_round_30
  · refine lv_if_ne (tgt := 29) hx hb dX11_round_5 (by decide) (fun c3 => absurd (by decide) c3) (fun _ => ?_)
    refine lv_iload_n hx hb dX11_round_8 rfl (lv_at hl 3 rfl) ?_
    refine lv_iconst (v := 0) hx hb dX11_round_9 (by decide) ?_
    refine lv_sipush (v := 2000) hx hb dX11_round_10 (by decide) ?_
    refine z_bi0 (z_runS (As := [.int x_2, .int 0, .int 2000]) (rest := []) C0 (c_X11_isOutside_1 l D k x_2 0 2000 _) okS_X11_isOutside kM_X11_47 rfl (z_p0 hK hN) rfl hl.1 rfl (Nat.le_of_ble_eq_true rfl) dX11_round_13 rfl) hP hS hA (fun r4 u4 H locs hw4 hP hS => ?_)
    obtain ⟨i4, a4⟩ := u4
    dsimp only at hw4
    rcases hw4 with ⟨rfl, rfl, c4⟩ | ⟨rfl, rfl, c4⟩
    · refine lv_if_ne (tgt := 29) hx hb dX11_round_16 (by decide) (fun _ => ?_) (fun c5 => absurd c5 (by decide))
      refine lv_iconst (v := (-1)) hx hb dX11_round_29 (by decide) ?_
      exact z_iret C0 hr hlk rfl hK hP hD hS (0, fun _ => 0) (Or.inl ⟨rfl, rfl, (Or.inr (Or.inl (⟨c1, c4⟩)))⟩) [] rfl rfl rfl dX11_round_30
    · refine lv_if_ne (tgt := 29) hx hb dX11_round_16 (by decide) (fun c6 => absurd (by decide) c6) (fun _ => ?_)
      refine lv_iload hx hb dX11_round_19 (lv_at hl 4 rfl) ?_
      refine lv_iconst (v := 0) hx hb dX11_round_21 (by decide) ?_
      refine lv_iconst (v := 2) hx hb dX11_round_22 (by decide) ?_
      refine z_bi0 (z_runS (As := [.int x_3, .int 0, .int 2]) (rest := []) C0 (c_X11_isOutside_1 l D k x_3 0 2 _) okS_X11_isOutside kM_X11_47 rfl (z_p0 hK hN) rfl hl.1 rfl (Nat.le_of_ble_eq_true rfl) dX11_round_23 rfl) hP hS hA (fun r7 u7 H locs hw7 hP hS => ?_)
      obtain ⟨i7, a7⟩ := u7
      dsimp only at hw7
      rcases hw7 with ⟨rfl, rfl, c7⟩ | ⟨rfl, rfl, c7⟩
      · refine lv_if_eq (tgt := 31) hx hb dX11_round_26 (by decide) (fun c8 => absurd c8 (by decide)) (fun _ => ?_)
        refine lv_iconst (v := (-1)) hx hb dX11_round_29 (by decide) ?_
        exact z_iret C0 hr hlk rfl hK hP hD hS (0, fun _ => 0) (Or.inl ⟨rfl, rfl, (Or.inr (Or.inr (⟨c1, c4, c7⟩)))⟩) [] rfl rfl rfl dX11_round_30
      · refine lv_if_eq (tgt := 31) hx hb dX11_round_26 (by decide) (fun _ => ?_) (fun c9 => absurd (by decide) c9)
        refine lv_aload_n hx hb dX11_round_31 rfl (lv_at hl 0 rfl) ?_
        refine va_get (D := D) (ci := 11) (v := .ref q_1) (C := RX11) (T := TX11) (N := 6) hx hb hts inX11 hown hK hP 0 rfl rfl 4 (by decide) (hts _ kF_X11_39) (fun _ h9 => h9) rfl dX11_round_32 ?_
        refine lv_iload_n hx hb dX11_round_35 rfl (lv_at hl 1 rfl) ?_
        refine lv_iload_n hx hb dX11_round_36 rfl (lv_at hl 2 rfl) ?_
        refine lv_iload_n hx hb dX11_round_37 rfl (lv_at hl 3 rfl) ?_
        refine z_bv (wr := [(q_0, .inr (11, [.ref q_3, .ref q_4, .ref q_5, .ref q_6, .ref q_1, .int x_4]))]) (z_runV (C := RX2) (As := [.int x_0, .int x_1, .int x_2]) (rest := []) C0 (c_X2_bestRound_1 l D k q_1 q_2 q_7 q_8 q_9 q_10 q_11 q_12 q_13 q_14 q_15 q_16 q_17 q_18 q_19 q_20 q_21 q_22 q_23 x_0 x_1 x_2 x_5 x_6 0 0 0 x_7 x_8 x_9 _) okV_X2_bestRound kM_X11_327 rfl (z_pV (q0 := 1) hK hN hP hD [1, 2] rfl rfl rfl rfl rfl) rfl hl.1 rfl (Nat.le_of_ble_eq_true rfl) dX11_round_38 rfl) hP hD hS hA [1, 2] [0] rfl rfl rfl rfl (fun u10 H locs hw10 hP hD hS => ?_)
        obtain ⟨i10, a10⟩ := u10
        dsimp only at hw10
        obtain rfl := hw10
        have hP : va_P D vwCl [(q_0, .inr (11, [.ref q_3, .ref q_4, .ref q_5, .ref q_6, .ref q_1, .int x_4])), (q_1, .inr (2, [.ref q_7, .ref q_2, .ref q_8, .int x_5, .int x_6, .ref q_9, .ref q_10, .ref q_11, .int 0, .int 0, .int 0, .ref q_12, .ref q_13, .ref q_14])), (q_2, .inr (4, [.int x_7, .ref q_15, .int x_8, .ref q_16, .ref q_17, .int 0, .ref q_18, .ref q_19, .ref q_20, .int x_9, .ref q_21, .ref q_22, .ref q_23]))] H := hP
        have hD : va_D A [(q_0, .inr (11, [.ref q_3, .ref q_4, .ref q_5, .ref q_6, .ref q_1, .int x_4])), (q_1, .inr (2, [.ref q_7, .ref q_2, .ref q_8, .int x_5, .int x_6, .ref q_9, .ref q_10, .ref q_11, .int 0, .int 0, .int 0, .ref q_12, .ref q_13, .ref q_14])), (q_2, .inr (4, [.int x_7, .ref q_15, .int x_8, .ref q_16, .ref q_17, .int 0, .ref q_18, .ref q_19, .ref q_20, .int x_9, .ref q_21, .ref q_22, .ref q_23]))] := hD
        refine lv_iload hx hb dX11_round_41 (lv_at hl 4 rfl) ?_
        refine lv_if_ne (tgt := 56) hx hb dX11_round_43 (by decide) (fun c11 => ?_) (fun c11 => ?_)
        · refine lv_iload hx hb dX11_round_56 (lv_at hl 4 rfl) ?_
          refine lv_iconst (v := 1) hx hb dX11_round_58 (by decide) ?_
          refine lv_icmp_ne (tgt := 72) hx hb dX11_round_59 (by decide) (fun c12 => ?_) (fun c12 => ?_)
          · refine lv_aload_n hx hb dX11_round_72 rfl (lv_at hl 0 rfl) ?_
            refine va_get (D := D) (ci := 11) (v := .ref q_1) (C := RX11) (T := TX11) (N := 6) hx hb hts inX11 hown hK hP 0 rfl rfl 4 (by decide) (hts _ kF_X11_39) (fun _ h9 => h9) rfl dX11_round_73 ?_
            refine va_get (D := D) (ci := 2) (v := .int 0) (C := RX2) (T := TX2) (N := 14) hx hb hts inX2 hown hK hP 1 rfl rfl 10 (by decide) (hts _ kF_X11_337) (fun _ h9 => h9) rfl dX11_round_76 ?_
            exact z_iret C0 hr hlk rfl hK hP hD hS (1, fun _ => 0) (Or.inr (⟨rfl, rfl, (Or.inl (⟨c1, c4, c7, c11, c12⟩))⟩)) [] rfl rfl rfl dX11_round_79
          · refine lv_aload_n hx hb dX11_round_62 rfl (lv_at hl 0 rfl) ?_
            refine va_get (D := D) (ci := 11) (v := .ref q_1) (C := RX11) (T := TX11) (N := 6) hx hb hts inX11 hown hK hP 0 rfl rfl 4 (by decide) (hts _ kF_X11_39) (fun _ h9 => h9) rfl dX11_round_63 ?_
            refine va_get (D := D) (ci := 2) (v := .int 0) (C := RX2) (T := TX2) (N := 14) hx hb hts inX2 hown hK hP 1 rfl rfl 9 (by decide) (hts _ kF_X11_334) (fun _ h9 => h9) rfl dX11_round_66 ?_
            refine lv_goto (tgt := 79) hx hb dX11_round_69 (by decide) ?_
            exact z_iret C0 hr hlk rfl hK hP hD hS (1, fun _ => 0) (Or.inr (⟨rfl, rfl, (Or.inr (Or.inl (⟨c1, c4, c7, c11, c12⟩)))⟩)) [] rfl rfl rfl dX11_round_79
        · refine lv_aload_n hx hb dX11_round_46 rfl (lv_at hl 0 rfl) ?_
          refine va_get (D := D) (ci := 11) (v := .ref q_1) (C := RX11) (T := TX11) (N := 6) hx hb hts inX11 hown hK hP 0 rfl rfl 4 (by decide) (hts _ kF_X11_39) (fun _ h9 => h9) rfl dX11_round_47 ?_
          refine va_get (D := D) (ci := 2) (v := .int 0) (C := RX2) (T := TX2) (N := 14) hx hb hts inX2 hown hK hP 1 rfl rfl 8 (by decide) (hts _ kF_X11_331) (fun _ h9 => h9) rfl dX11_round_50 ?_
          refine lv_goto (tgt := 79) hx hb dX11_round_53 (by decide) ?_
          exact z_iret C0 hr hlk rfl hK hP hD hS (1, fun _ => 0) (Or.inr (⟨rfl, rfl, (Or.inr (Or.inr (⟨c1, c4, c7, c11⟩)))⟩)) [] rfl rfl rfl dX11_round_79

set_option maxHeartbeats 4000000 in
set_option maxRecDepth 100000 in
theorem c_X12_findWays_1 (l : Launch) (D : va_G) (k : Nat → ClassId) (q_0 : Nat) (q_1 : Nat) (q_2 : Nat) (q_3 : Nat) (q_4 : Nat) (q_5 : Nat) (q_6 : Nat) (q_7 : Nat) (q_8 : Nat) (q_9 : Nat) (q_10 : Nat) (q_11 : Nat) (q_12 : Nat) (q_13 : Nat) (q_14 : Nat) (q_15 : Nat) (q_16 : Nat) (q_17 : Nat) (q_18 : Nat) (q_19 : Nat) (q_20 : Nat) (q_21 : Nat) (q_22 : Nat) (q_23 : Nat) (q_24 : Nat) (q_25 : Nat) (x_0 : Int32) (x_1 : Int32) (x_2 : Int32) (x_3 : Int32) (x_4 : Int32) (x_5 : Int32) (x_6 : Int32) (x_7 : Int32) (x_8 : Int32) (g_9 : Int64) (x_10 : Int32) (x_11 : Int32) (x_12 : Int32) (x_13 : Int32) (x_14 : Int32) (x_15 : Int32) (x_16 : Int32) (x_17 : Int32) (g_18 : Int64) (g_19 : Int64) (x_20 : Int32) (x_21 : Int32) (x_22 : Int32) (x_23 : Int32) (x_24 : Int32) (x_25 : Int32) (x_26 : Int32) (x_27 : Int32) (x_28 : Int32) (x_29 : Int32) (x_30 : Int32) (x_31 : Int32) (x_32 : Int32) : zMv l yX12_findWays cX12_findWays 10 none ({ frames := 0, cells := 0, slots := 0, locals := 0 }) D k [.ref q_0, .int x_0, .int x_1] [(q_0, .inr (12, [.int x_2, .int x_3, .ref q_1, .ref q_2, .ref q_3, .int x_4, .ref q_4, .ref q_5, .ref q_6, .ref q_7, .ref q_8, .int x_5, .int x_6, .int x_7, .int x_8, .long g_9, .int x_10, .int x_11, .int x_12, .ref q_9, .int x_13, .ref q_10, .ref q_11, .int x_14, .ref q_12, .ref q_13, .int x_15, .int x_16, .ref q_14, .ref q_15, .ref q_16, .ref q_17, .int x_17, .long g_18, .long g_19, .int x_20, .int x_21, .int x_22, .int x_23, .ref q_18, .ref q_19, .int x_24, .int x_25, .int x_26, .int x_27, .ref q_20, .ref q_21, .int x_28, .int x_29, .ref q_22, .ref q_23, .ref q_24, .ref q_25, .int x_30, .int x_31, .int x_32])), (q_1, .inl (k 0, 27101, .inl (fun _ => 0)))] (fun u => u.1 = 0) (fun u => [(q_0, .inr (12, [.int x_2, .int x_3, .ref q_1, .ref q_2, .ref q_3, .int x_4, .ref q_4, .ref q_5, .ref q_6, .ref q_7, .ref q_8, .int x_5, .int x_6, .int x_7, .int x_8, .long g_9, .int x_10, .int x_11, .int x_12, .ref q_9, .int x_13, .ref q_10, .ref q_11, .int x_14, .ref q_12, .ref q_13, .int x_15, .int x_16, .ref q_14, .ref q_15, .ref q_16, .ref q_17, .int x_17, .long g_18, .long g_19, .int x_20, .int x_21, .int x_22, .int x_23, .ref q_18, .ref q_19, .int x_24, .int x_25, .int x_26, .int x_27, .ref q_20, .ref q_21, .int x_28, .int x_29, .ref q_22, .ref q_23, .ref q_24, .ref q_25, .int x_30, .int x_31, .int x_32])), (q_1, .inl (k 0, 27101, .inl (fun _ => 0)))]) := by
  refine zMv_of (own := RX12) (by decide +kernel) rfl (Nat.le_of_ble_eq_true rfl) ?_
  intro p e s m args below meth c A ls C0 hr hlk hin hP hD hS hA hK hN hl
  have hx := C0.1
  have hb := C0.2.1
  have hml := C0.2.2.1
  have hown := C0.2.2.2.1
  have hts := C0.2.2.2.2
  have hl : lv_has ls 10 [(0, .ref q_0), (1, .int x_0), (2, .int x_1)] := hl
  have hP : va_P D vwCl [(q_0, .inr (12, [.int x_2, .int x_3, .ref q_1, .ref q_2, .ref q_3, .int x_4, .ref q_4, .ref q_5, .ref q_6, .ref q_7, .ref q_8, .int x_5, .int x_6, .int x_7, .int x_8, .long g_9, .int x_10, .int x_11, .int x_12, .ref q_9, .int x_13, .ref q_10, .ref q_11, .int x_14, .ref q_12, .ref q_13, .int x_15, .int x_16, .ref q_14, .ref q_15, .ref q_16, .ref q_17, .int x_17, .long g_18, .long g_19, .int x_20, .int x_21, .int x_22, .int x_23, .ref q_18, .ref q_19, .int x_24, .int x_25, .int x_26, .int x_27, .ref q_20, .ref q_21, .int x_28, .int x_29, .ref q_22, .ref q_23, .ref q_24, .ref q_25, .int x_30, .int x_31, .int x_32])), (q_1, .inl (k 0, 27101, .inl (fun _ => 0)))] s.heap := hP
  refine lv_aload_n hx hb dX12_findWays_0 rfl (lv_at hl 0 rfl) ?_
  refine va_get (D := D) (ci := 12) (v := .ref q_1) (C := RX12) (T := TX12) (N := 56) hx hb hts inX12 hown hK hP 0 rfl rfl 2 (by decide) (hts _ kF_X12_7) (fun _ h9 => h9) rfl dX12_findWays_1 ?_
  refine lv_bipush (v := 7) hx hb dX12_findWays_4 (by decide) ?_
  refine va_iald hx hb hK hP 1 0 rfl rfl (by unfold vp_in; decide) dX12_findWays_6 ?_
  refine lv_toc (v := 0) rfl ?_
  refine lv_istore_n (lv' := [(3, .int 0), (0, .ref q_0), (1, .int x_0), (2, .int x_1)]) hx hb dX12_findWays_7 rfl hl (by decide) rfl (fun ls hl => ?_)
  refine lv_iconst (v := 1) hx hb dX12_findWays_8 (by decide) ?_
  refine lv_istore (lv' := [(4, .int 1), (3, .int 0), (0, .ref q_0), (1, .int x_0), (2, .int x_1)]) hx hb dX12_findWays_9 hl (by decide) rfl (fun ls hl => ?_)
  refine lv_iload hx hb dX12_findWays_11 (lv_at hl 0 rfl) ?_
  refine lv_iconst (v := 1) hx hb dX12_findWays_13 (by decide) ?_
  refine lv_iload_n hx hb dX12_findWays_14 rfl (lv_at hl 1 rfl) ?_
  refine lv_ishl hx hb dX12_findWays_15 ?_
  refine lv_toc (v := 1) (by decide) ?_
  refine lv_icmp_ge (tgt := 170) hx hb dX12_findWays_16 (by decide) (fun _ => ?_) (fun c1 => absurd (by decide) c1)
  exact z_vret C0 hr hlk hK hP hD hS (0, fun _ => 0) rfl [0, 1] rfl rfl rfl dX12_findWays_170

set_option maxHeartbeats 4000000 in
set_option maxRecDepth 100000 in
theorem c_X12_round_1 (l : Launch) (D : va_G) (k : Nat → ClassId) (q_0 : Nat) (q_1 : Nat) (q_2 : Nat) (q_3 : Nat) (q_4 : Nat) (q_5 : Nat) (q_6 : Nat) (q_7 : Nat) (q_8 : Nat) (q_9 : Nat) (q_10 : Nat) (q_11 : Nat) (q_12 : Nat) (q_13 : Nat) (q_14 : Nat) (q_15 : Nat) (q_16 : Nat) (q_17 : Nat) (q_18 : Nat) (q_19 : Nat) (q_20 : Nat) (q_21 : Nat) (q_22 : Nat) (q_23 : Nat) (q_24 : Nat) (q_25 : Nat) (x_0 : Int32) (x_1 : Int32) (x_2 : Int32) (x_3 : Int32) (x_4 : Int32) (x_5 : Int32) (x_6 : Int32) (x_7 : Int32) (x_8 : Int32) (x_9 : Int32) (x_10 : Int32) (g_11 : Int64) (x_12 : Int32) (x_13 : Int32) (x_14 : Int32) (x_15 : Int32) (x_16 : Int32) (x_17 : Int32) (x_18 : Int32) (x_19 : Int32) (g_20 : Int64) (g_21 : Int64) (x_22 : Int32) (x_23 : Int32) (x_24 : Int32) (x_25 : Int32) (x_26 : Int32) (x_27 : Int32) (x_28 : Int32) (x_29 : Int32) (x_30 : Int32) (x_31 : Int32) (x_32 : Int32) (x_33 : Int32) (x_34 : Int32) : zMi l yX12_round cX12_round 12 (some .int) ({ frames := 1, cells := 0, slots := 0, locals := 29 }) D k [.ref q_0, .int x_0, .int x_1, .int x_2, .int x_3] [(q_0, .inr (12, [.int x_4, .int x_5, .ref q_1, .ref q_2, .ref q_3, .int x_6, .ref q_4, .ref q_5, .ref q_6, .ref q_7, .ref q_8, .int x_7, .int x_8, .int x_9, .int x_10, .long g_11, .int x_12, .int x_13, .int x_14, .ref q_9, .int x_15, .ref q_10, .ref q_11, .int x_16, .ref q_12, .ref q_13, .int x_17, .int x_18, .ref q_14, .ref q_15, .ref q_16, .ref q_17, .int x_19, .long g_20, .long g_21, .int x_22, .int x_23, .int x_24, .int x_25, .ref q_18, .ref q_19, .int x_26, .int x_27, .int x_28, .int x_29, .ref q_20, .ref q_21, .int x_30, .int x_31, .ref q_22, .ref q_23, .ref q_24, .ref q_25, .int x_32, .int x_33, .int x_34])), (q_1, .inl (k 0, 27101, .inl (fun _ => 0)))] (fun r u => (u.1 = 0 ∧ r = (-1) ∧ (((((Int32.toInt64 x_0) < 0) ∨ (¬ (Int32.toInt64 x_0) < 0 ∧ (99 : Int64) < (Int32.toInt64 x_0)))) ∨ (((¬ (Int32.toInt64 x_0) < 0 ∧ ¬ (99 : Int64) < (Int32.toInt64 x_0))) ∧ (((Int32.toInt64 x_1) < 0) ∨ (¬ (Int32.toInt64 x_1) < 0 ∧ (99 : Int64) < (Int32.toInt64 x_1)))) ∨ (((¬ (Int32.toInt64 x_0) < 0 ∧ ¬ (99 : Int64) < (Int32.toInt64 x_0))) ∧ ((¬ (Int32.toInt64 x_1) < 0 ∧ ¬ (99 : Int64) < (Int32.toInt64 x_1))) ∧ (((Int32.toInt64 x_2) < 0) ∨ (¬ (Int32.toInt64 x_2) < 0 ∧ (2000 : Int64) < (Int32.toInt64 x_2)))) ∨ (((¬ (Int32.toInt64 x_0) < 0 ∧ ¬ (99 : Int64) < (Int32.toInt64 x_0))) ∧ ((¬ (Int32.toInt64 x_1) < 0 ∧ ¬ (99 : Int64) < (Int32.toInt64 x_1))) ∧ ((¬ (Int32.toInt64 x_2) < 0 ∧ ¬ (2000 : Int64) < (Int32.toInt64 x_2))) ∧ (((Int32.toInt64 x_3) < 0) ∨ (¬ (Int32.toInt64 x_3) < 0 ∧ (2 : Int64) < (Int32.toInt64 x_3)))))) ∨ (u.1 = 1 ∧ r = 0 ∧ ((((¬ (Int32.toInt64 x_0) < 0 ∧ ¬ (99 : Int64) < (Int32.toInt64 x_0))) ∧ ((¬ (Int32.toInt64 x_1) < 0 ∧ ¬ (99 : Int64) < (Int32.toInt64 x_1))) ∧ ((¬ (Int32.toInt64 x_2) < 0 ∧ ¬ (2000 : Int64) < (Int32.toInt64 x_2))) ∧ ((¬ (Int32.toInt64 x_3) < 0 ∧ ¬ (2 : Int64) < (Int32.toInt64 x_3))) ∧ ¬ x_3 = 0 ∧ ¬ x_3 = 1) ∨ (((¬ (Int32.toInt64 x_0) < 0 ∧ ¬ (99 : Int64) < (Int32.toInt64 x_0))) ∧ ((¬ (Int32.toInt64 x_1) < 0 ∧ ¬ (99 : Int64) < (Int32.toInt64 x_1))) ∧ ((¬ (Int32.toInt64 x_2) < 0 ∧ ¬ (2000 : Int64) < (Int32.toInt64 x_2))) ∧ ((¬ (Int32.toInt64 x_3) < 0 ∧ ¬ (2 : Int64) < (Int32.toInt64 x_3))) ∧ ¬ x_3 = 0 ∧ x_3 = 1) ∨ (((¬ (Int32.toInt64 x_0) < 0 ∧ ¬ (99 : Int64) < (Int32.toInt64 x_0))) ∧ ((¬ (Int32.toInt64 x_1) < 0 ∧ ¬ (99 : Int64) < (Int32.toInt64 x_1))) ∧ ((¬ (Int32.toInt64 x_2) < 0 ∧ ¬ (2000 : Int64) < (Int32.toInt64 x_2))) ∧ ((¬ (Int32.toInt64 x_3) < 0 ∧ ¬ (2 : Int64) < (Int32.toInt64 x_3))) ∧ x_3 = 0)))) (fun u => []) := by
  refine zMi_of (own := RX12) (by decide +kernel) rfl (Nat.le_of_ble_eq_true rfl) ?_
  intro p e s m args below meth c A ls C0 hr hlk hin hP hD hS hA hK hN hl
  have hx := C0.1
  have hb := C0.2.1
  have hml := C0.2.2.1
  have hown := C0.2.2.2.1
  have hts := C0.2.2.2.2
  have hl : lv_has ls 12 [(0, .ref q_0), (1, .int x_0), (2, .int x_1), (3, .int x_2), (4, .int x_3)] := hl
  have hP : va_P D vwCl [(q_0, .inr (12, [.int x_4, .int x_5, .ref q_1, .ref q_2, .ref q_3, .int x_6, .ref q_4, .ref q_5, .ref q_6, .ref q_7, .ref q_8, .int x_7, .int x_8, .int x_9, .int x_10, .long g_11, .int x_12, .int x_13, .int x_14, .ref q_9, .int x_15, .ref q_10, .ref q_11, .int x_16, .ref q_12, .ref q_13, .int x_17, .int x_18, .ref q_14, .ref q_15, .ref q_16, .ref q_17, .int x_19, .long g_20, .long g_21, .int x_22, .int x_23, .int x_24, .int x_25, .ref q_18, .ref q_19, .int x_26, .int x_27, .int x_28, .int x_29, .ref q_20, .ref q_21, .int x_30, .int x_31, .ref q_22, .ref q_23, .ref q_24, .ref q_25, .int x_32, .int x_33, .int x_34])), (q_1, .inl (k 0, 27101, .inl (fun _ => 0)))] s.heap := hP
  refine lv_aload_n hx hb dX12_round_0 rfl (lv_at hl 0 rfl) ?_
  refine lv_iconst (v := 0) hx hb dX12_round_1 (by decide) ?_
  refine va_put (D := D) (ci := 12) (v := .int 0) (ty := .int) (C := RX12) (T := TX12) (N := 56) hx hb hts inX12 tyX12 tyX12_ok nmX12 hown hK hP hD hS 0 rfl rfl 0 (by decide) (hts _ kF_X12_92) (fun _ h9 => h9) rfl (by decide +kernel) rfl rfl (Nat.le_of_ble_eq_true rfl) dX12_round_2 (fun H locs hP hD hS => ?_)
  have hP : va_P D vwCl [(q_0, .inr (12, [.int 0, .int x_5, .ref q_1, .ref q_2, .ref q_3, .int x_6, .ref q_4, .ref q_5, .ref q_6, .ref q_7, .ref q_8, .int x_7, .int x_8, .int x_9, .int x_10, .long g_11, .int x_12, .int x_13, .int x_14, .ref q_9, .int x_15, .ref q_10, .ref q_11, .int x_16, .ref q_12, .ref q_13, .int x_17, .int x_18, .ref q_14, .ref q_15, .ref q_16, .ref q_17, .int x_19, .long g_20, .long g_21, .int x_22, .int x_23, .int x_24, .int x_25, .ref q_18, .ref q_19, .int x_26, .int x_27, .int x_28, .int x_29, .ref q_20, .ref q_21, .int x_30, .int x_31, .ref q_22, .ref q_23, .ref q_24, .ref q_25, .int x_32, .int x_33, .int x_34])), (q_1, .inl (k 0, 27101, .inl (fun _ => 0)))] H := hP
  have hD : va_D A [(q_0, .inr (12, [.int 0, .int x_5, .ref q_1, .ref q_2, .ref q_3, .int x_6, .ref q_4, .ref q_5, .ref q_6, .ref q_7, .ref q_8, .int x_7, .int x_8, .int x_9, .int x_10, .long g_11, .int x_12, .int x_13, .int x_14, .ref q_9, .int x_15, .ref q_10, .ref q_11, .int x_16, .ref q_12, .ref q_13, .int x_17, .int x_18, .ref q_14, .ref q_15, .ref q_16, .ref q_17, .int x_19, .long g_20, .long g_21, .int x_22, .int x_23, .int x_24, .int x_25, .ref q_18, .ref q_19, .int x_26, .int x_27, .int x_28, .int x_29, .ref q_20, .ref q_21, .int x_30, .int x_31, .ref q_22, .ref q_23, .ref q_24, .ref q_25, .int x_32, .int x_33, .int x_34])), (q_1, .inl (k 0, 27101, .inl (fun _ => 0)))] := hD
  refine lv_iload_n hx hb dX12_round_5 rfl (lv_at hl 1 rfl) ?_
  refine lv_i2l (v := (Int32.toInt64 x_0)) hx hb dX12_round_6 rfl ?_
  refine lv_lconst (v := 0) hx hb dX12_round_7 (by decide) ?_
  refine lv_ldc2 hx hb hown (hts _ kL_X12_118) dX12_round_8 ?_
  refine z_bi0 (z_runS (As := [.long (Int32.toInt64 x_0), .long 0, .long 99]) (rest := []) C0 (c_X12_in_1 l D k (Int32.toInt64 x_0) 0 99 _) okS_X12_in kM_X12_100 rfl (z_p0 hK hN) rfl hl.1 rfl (Nat.le_of_ble_eq_true rfl) dX12_round_11 rfl) hP hS hA (fun r1 u1 H locs hw1 hP hS => ?_)
  obtain ⟨i1, a1⟩ := u1
  dsimp only at hw1
  rcases hw1 with ⟨rfl, rfl, c1⟩ | ⟨rfl, rfl, c1⟩
  · refine lv_if_eq (tgt := 54) hx hb dX12_round_14 (by decide) (fun _ => ?_) (fun c2 => absurd (by decide) c2)
    refine lv_iconst (v := (-1)) hx hb dX12_round_54 (by decide) ?_
    exact z_iret C0 hr hlk rfl hK hP hD hS (0, fun _ => 0) (Or.inl ⟨rfl, rfl, (Or.inl c1)⟩) [] rfl rfl rfl dX12_round_55
  · refine lv_if_eq (tgt := 54) hx hb dX12_round_14 (by decide) (fun c3 => absurd c3 (by decide)) (fun _ => ?_)
    refine lv_iload_n hx hb dX12_round_17 rfl (lv_at hl 2 rfl) ?_
    refine lv_i2l (v := (Int32.toInt64 x_1)) hx hb dX12_round_18 rfl ?_
    refine lv_lconst (v := 0) hx hb dX12_round_19 (by decide) ?_
    refine lv_ldc2 hx hb hown (hts _ kL_X12_118) dX12_round_20 ?_
    refine z_bi0 (z_runS (As := [.long (Int32.toInt64 x_1), .long 0, .long 99]) (rest := []) C0 (c_X12_in_1 l D k (Int32.toInt64 x_1) 0 99 _) okS_X12_in kM_X12_100 rfl (z_p0 hK hN) rfl hl.1 rfl (Nat.le_of_ble_eq_true rfl) dX12_round_23 rfl) hP hS hA (fun r4 u4 H locs hw4 hP hS => ?_)
    obtain ⟨i4, a4⟩ := u4
    dsimp only at hw4
    rcases hw4 with ⟨rfl, rfl, c4⟩ | ⟨rfl, rfl, c4⟩
    · refine lv_if_eq (tgt := 54) hx hb dX12_round_26 (by decide) (fun _ => ?_) (fun c5 => absurd (by decide) c5)
      refine lv_iconst (v := (-1)) hx hb dX12_round_54 (by decide) ?_
      exact z_iret C0 hr hlk rfl hK hP hD hS (0, fun _ => 0) (Or.inl ⟨rfl, rfl, (Or.inr (Or.inl (⟨c1, c4⟩)))⟩) [] rfl rfl rfl dX12_round_55
    · refine lv_if_eq (tgt := 54) hx hb dX12_round_26 (by decide) (fun c6 => absurd c6 (by decide)) (fun _ => ?_)
      refine lv_iload_n hx hb dX12_round_29 rfl (lv_at hl 3 rfl) ?_
      refine lv_i2l (v := (Int32.toInt64 x_2)) hx hb dX12_round_30 rfl ?_
      refine lv_lconst (v := 0) hx hb dX12_round_31 (by decide) ?_
      refine lv_ldc2 hx hb hown (hts _ kL_X12_535) dX12_round_32 ?_
      refine z_bi0 (z_runS (As := [.long (Int32.toInt64 x_2), .long 0, .long 2000]) (rest := []) C0 (c_X12_in_1 l D k (Int32.toInt64 x_2) 0 2000 _) okS_X12_in kM_X12_100 rfl (z_p0 hK hN) rfl hl.1 rfl (Nat.le_of_ble_eq_true rfl) dX12_round_35 rfl) hP hS hA (fun r7 u7 H locs hw7 hP hS => ?_)
      obtain ⟨i7, a7⟩ := u7
      dsimp only at hw7
      rcases hw7 with ⟨rfl, rfl, c7⟩ | ⟨rfl, rfl, c7⟩
      · refine lv_if_eq (tgt := 54) hx hb dX12_round_38 (by decide) (fun _ => ?_) (fun c8 => absurd (by decide) c8)
        refine lv_iconst (v := (-1)) hx hb dX12_round_54 (by decide) ?_
        exact z_iret C0 hr hlk rfl hK hP hD hS (0, fun _ => 0) (Or.inl ⟨rfl, rfl, (Or.inr (Or.inr (Or.inl (⟨c1, c4, c7⟩))))⟩) [] rfl rfl rfl dX12_round_55
      · refine lv_if_eq (tgt := 54) hx hb dX12_round_38 (by decide) (fun c9 => absurd c9 (by decide)) (fun _ => ?_)
        refine lv_iload hx hb dX12_round_41 (lv_at hl 4 rfl) ?_
        refine lv_i2l (v := (Int32.toInt64 x_3)) hx hb dX12_round_43 rfl ?_
        refine lv_lconst (v := 0) hx hb dX12_round_44 (by decide) ?_
        refine lv_ldc2 hx hb hown (hts _ kL_X12_484) dX12_round_45 ?_
        refine z_bi0 (z_runS (As := [.long (Int32.toInt64 x_3), .long 0, .long 2]) (rest := []) C0 (c_X12_in_1 l D k (Int32.toInt64 x_3) 0 2 _) okS_X12_in kM_X12_100 rfl (z_p0 hK hN) rfl hl.1 rfl (Nat.le_of_ble_eq_true rfl) dX12_round_48 rfl) hP hS hA (fun r10 u10 H locs hw10 hP hS => ?_)
        obtain ⟨i10, a10⟩ := u10
        dsimp only at hw10
        rcases hw10 with ⟨rfl, rfl, c10⟩ | ⟨rfl, rfl, c10⟩
        · refine lv_if_ne (tgt := 56) hx hb dX12_round_51 (by decide) (fun c11 => absurd (by decide) c11) (fun _ => ?_)
          refine lv_iconst (v := (-1)) hx hb dX12_round_54 (by decide) ?_
          exact z_iret C0 hr hlk rfl hK hP hD hS (0, fun _ => 0) (Or.inl ⟨rfl, rfl, (Or.inr (Or.inr (Or.inr (⟨c1, c4, c7, c10⟩))))⟩) [] rfl rfl rfl dX12_round_55
        · refine lv_if_ne (tgt := 56) hx hb dX12_round_51 (by decide) (fun _ => ?_) (fun c12 => absurd c12 (by decide))
          refine lv_aload_n hx hb dX12_round_56 rfl (lv_at hl 0 rfl) ?_
          refine lv_iload_n hx hb dX12_round_57 rfl (lv_at hl 1 rfl) ?_
          refine lv_iload_n hx hb dX12_round_58 rfl (lv_at hl 2 rfl) ?_
          refine z_bv (wr := []) (z_runV (C := RX12) (As := [.int x_0, .int x_1]) (rest := []) C0 (c_X12_findWays_1 l D k q_0 q_1 q_2 q_3 q_4 q_5 q_6 q_7 q_8 q_9 q_10 q_11 q_12 q_13 q_14 q_15 q_16 q_17 q_18 q_19 q_20 q_21 q_22 q_23 q_24 q_25 x_0 x_1 0 x_5 x_6 x_7 x_8 x_9 x_10 g_11 x_12 x_13 x_14 x_15 x_16 x_17 x_18 x_19 g_20 g_21 x_22 x_23 x_24 x_25 x_26 x_27 x_28 x_29 x_30 x_31 x_32 x_33 x_34 _) okV_X12_findWays kM_X12_537 rfl (z_pV (q0 := 0) hK hN hP hD [0, 1] rfl rfl rfl rfl rfl) rfl hl.1 rfl (Nat.le_of_ble_eq_true rfl) dX12_round_59 rfl) hP hD hS hA [0, 1] [] rfl rfl rfl rfl (fun u13 H locs hw13 hP hD hS => ?_)
          obtain ⟨i13, a13⟩ := u13
          dsimp only at hw13
          obtain rfl := hw13
          have hP : va_P D vwCl [(q_0, .inr (12, [.int 0, .int x_5, .ref q_1, .ref q_2, .ref q_3, .int x_6, .ref q_4, .ref q_5, .ref q_6, .ref q_7, .ref q_8, .int x_7, .int x_8, .int x_9, .int x_10, .long g_11, .int x_12, .int x_13, .int x_14, .ref q_9, .int x_15, .ref q_10, .ref q_11, .int x_16, .ref q_12, .ref q_13, .int x_17, .int x_18, .ref q_14, .ref q_15, .ref q_16, .ref q_17, .int x_19, .long g_20, .long g_21, .int x_22, .int x_23, .int x_24, .int x_25, .ref q_18, .ref q_19, .int x_26, .int x_27, .int x_28, .int x_29, .ref q_20, .ref q_21, .int x_30, .int x_31, .ref q_22, .ref q_23, .ref q_24, .ref q_25, .int x_32, .int x_33, .int x_34])), (q_1, .inl (k 0, 27101, .inl (fun _ => 0)))] H := hP
          have hD : va_D A [(q_0, .inr (12, [.int 0, .int x_5, .ref q_1, .ref q_2, .ref q_3, .int x_6, .ref q_4, .ref q_5, .ref q_6, .ref q_7, .ref q_8, .int x_7, .int x_8, .int x_9, .int x_10, .long g_11, .int x_12, .int x_13, .int x_14, .ref q_9, .int x_15, .ref q_10, .ref q_11, .int x_16, .ref q_12, .ref q_13, .int x_17, .int x_18, .ref q_14, .ref q_15, .ref q_16, .ref q_17, .int x_19, .long g_20, .long g_21, .int x_22, .int x_23, .int x_24, .int x_25, .ref q_18, .ref q_19, .int x_26, .int x_27, .int x_28, .int x_29, .ref q_20, .ref q_21, .int x_30, .int x_31, .ref q_22, .ref q_23, .ref q_24, .ref q_25, .int x_32, .int x_33, .int x_34])), (q_1, .inl (k 0, 27101, .inl (fun _ => 0)))] := hD
          refine lv_iconst (v := 0) hx hb dX12_round_62 (by decide) ?_
          refine lv_istore (lv' := [(5, .int 0), (0, .ref q_0), (1, .int x_0), (2, .int x_1), (3, .int x_2), (4, .int x_3)]) hx hb dX12_round_63 hl (by decide) rfl (fun ls hl => ?_)
          refine lv_iconst (v := 0) hx hb dX12_round_65 (by decide) ?_
          refine lv_istore (lv' := [(6, .int 0), (5, .int 0), (0, .ref q_0), (1, .int x_0), (2, .int x_1), (3, .int x_2), (4, .int x_3)]) hx hb dX12_round_66 hl (by decide) rfl (fun ls hl => ?_)
          refine lv_iconst (v := 0) hx hb dX12_round_68 (by decide) ?_
          refine lv_istore (lv' := [(7, .int 0), (6, .int 0), (5, .int 0), (0, .ref q_0), (1, .int x_0), (2, .int x_1), (3, .int x_2), (4, .int x_3)]) hx hb dX12_round_69 hl (by decide) rfl (fun ls hl => ?_)
          refine lv_iconst (v := 1) hx hb dX12_round_71 (by decide) ?_
          refine lv_istore (lv' := [(8, .int 1), (7, .int 0), (6, .int 0), (5, .int 0), (0, .ref q_0), (1, .int x_0), (2, .int x_1), (3, .int x_2), (4, .int x_3)]) hx hb dX12_round_72 hl (by decide) rfl (fun ls hl => ?_)
          refine lv_iload hx hb dX12_round_74 (lv_at hl 0 rfl) ?_
          refine lv_iconst (v := 1) hx hb dX12_round_76 (by decide) ?_
          refine lv_aload_n hx hb dX12_round_77 rfl (lv_at hl 4 rfl) ?_
          refine va_get (D := D) (ci := 12) (v := .ref q_1) (C := RX12) (T := TX12) (N := 56) hx hb hts inX12 hown hK hP 0 rfl rfl 2 (by decide) (hts _ kF_X12_7) (fun _ h9 => h9) rfl dX12_round_78 ?_
          refine lv_bipush (v := 7) hx hb dX12_round_81 (by decide) ?_
          refine va_iald hx hb hK hP 1 0 rfl rfl (by unfold vp_in; decide) dX12_round_83 ?_
          refine lv_toc (v := 0) rfl ?_
          refine lv_ishl hx hb dX12_round_84 ?_
          refine lv_toc (v := 1) (by decide) ?_
          refine lv_icmp_ge (tgt := 195) hx hb dX12_round_85 (by decide) (fun _ => ?_) (fun c14 => absurd (by decide) c14)
          refine lv_iload hx hb dX12_round_195 (lv_at hl 8 rfl) ?_
          refine lv_if_ne (tgt := 205) hx hb dX12_round_197 (by decide) (fun c15 => ?_) (fun c15 => ?_)
          · refine lv_iload hx hb dX12_round_205 (lv_at hl 8 rfl) ?_
            refine lv_iconst (v := 1) hx hb dX12_round_207 (by decide) ?_
            refine lv_icmp_ne (tgt := 216) hx hb dX12_round_208 (by decide) (fun c16 => ?_) (fun c16 => ?_)
            · refine lv_iload hx hb dX12_round_216 (lv_at hl 1 rfl) ?_
              exact z_iret C0 hr hlk rfl hK hP hD hS (1, fun _ => 0) (Or.inr (⟨rfl, rfl, (Or.inl (⟨c1, c4, c7, c10, c15, c16⟩))⟩)) [] rfl rfl rfl dX12_round_218
            · refine lv_iload hx hb dX12_round_211 (lv_at hl 2 rfl) ?_
              refine lv_goto (tgt := 218) hx hb dX12_round_213 (by decide) ?_
              exact z_iret C0 hr hlk rfl hK hP hD hS (1, fun _ => 0) (Or.inr (⟨rfl, rfl, (Or.inr (Or.inl (⟨c1, c4, c7, c10, c15, c16⟩)))⟩)) [] rfl rfl rfl dX12_round_218
          · refine lv_iload hx hb dX12_round_200 (lv_at hl 3 rfl) ?_
            refine lv_goto (tgt := 218) hx hb dX12_round_202 (by decide) ?_
            exact z_iret C0 hr hlk rfl hK hP hD hS (1, fun _ => 0) (Or.inr (⟨rfl, rfl, (Or.inr (Or.inr (⟨c1, c4, c7, c10, c15⟩)))⟩)) [] rfl rfl rfl dX12_round_218

set_option maxHeartbeats 4000000 in
set_option maxRecDepth 100000 in
theorem c_X1_countWeek_1 (l : Launch) (D : va_G) (k : Nat → ClassId) (q_0 : Nat) (q_1 : Nat) (q_2 : Nat) (q_3 : Nat) (q_4 : Nat) (q_5 : Nat) (q_6 : Nat) (q_7 : Nat) (q_8 : Nat) (q_9 : Nat) (q_10 : Nat) (q_11 : Nat) (q_12 : Nat) (q_13 : Nat) (q_14 : Nat) (q_15 : Nat) (q_16 : Nat) (q_17 : Nat) (q_18 : Nat) (q_19 : Nat) (q_20 : Nat) (q_21 : Nat) (q_22 : Nat) (q_23 : Nat) (q_24 : Nat) (q_25 : Nat) (q_26 : Nat) (x_0 : Int32) (x_1 : Int32) (x_2 : Int32) (x_3 : Int32) (x_4 : Int32) (x_5 : Int32) (x_6 : Int32) (x_7 : Int32) (x_8 : Int32) (x_9 : Int32) (x_10 : Int32) (x_11 : Int32) (x_12 : Int32) (x_13 : Int32) (x_14 : Int32) (f_0 : Nat → Int32) (f_1 : Nat → Int32) : zMv l yX1_countWeek cX1_countWeek 6 none ({ frames := 1, cells := 0, slots := 0, locals := 23 }) D k [.ref q_0, .int x_0, .int x_1] [(q_0, .inr (1, [.ref q_1, .ref q_5, .ref q_6, .ref q_7, .ref q_8, .ref q_9, .ref q_2, .ref q_3, .int x_2, .int x_3, .int x_4, .int x_5, .int x_6, .int x_7, .int x_8, .int x_9, .int x_10, .int x_11, .int x_12])), (q_1, .inr (3, [.ref q_10, .ref q_11, .ref q_4, .ref q_12, .ref q_13, .ref q_14])), (q_2, .inl (k 0, 5, .inl f_0)), (q_3, .inl (k 0, 5, .inl f_1)), (q_4, .inr (5, [.int 0, .ref q_15, .ref q_16, .ref q_17, .ref q_18, .ref q_19, .ref q_20, .ref q_21, .ref q_22, .ref q_23, .ref q_24, .ref q_25, .ref q_26, .int x_13, .int x_14]))] (fun u => u.1 = 0) (fun u => [(q_0, .inr (1, [.ref q_1, .ref q_5, .ref q_6, .ref q_7, .ref q_8, .ref q_9, .ref q_2, .ref q_3, .int x_2, .int x_3, .int x_4, .int x_5, .int x_6, .int x_7, .int x_8, .int x_9, .int x_10, .int x_11, .int x_12])), (q_1, .inr (3, [.ref q_10, .ref q_11, .ref q_4, .ref q_12, .ref q_13, .ref q_14])), (q_2, .inl (k 0, 5, .inl (fun _ => 0))), (q_3, .inl (k 0, 5, .inl (fun _ => 0))), (q_4, .inr (5, [.int 0, .ref q_15, .ref q_16, .ref q_17, .ref q_18, .ref q_19, .ref q_20, .ref q_21, .ref q_22, .ref q_23, .ref q_24, .ref q_25, .ref q_26, .int x_13, .int x_14]))]) := by
  refine zMv_of (own := RX1) (by decide +kernel) rfl (Nat.le_of_ble_eq_true rfl) ?_
  intro p e s m args below meth c A ls C0 hr hlk hin hP hD hS hA hK hN hl
  have hx := C0.1
  have hb := C0.2.1
  have hml := C0.2.2.1
  have hown := C0.2.2.2.1
  have hts := C0.2.2.2.2
  have hl : lv_has ls 6 [(0, .ref q_0), (1, .int x_0), (2, .int x_1)] := hl
  have hP : va_P D vwCl [(q_0, .inr (1, [.ref q_1, .ref q_5, .ref q_6, .ref q_7, .ref q_8, .ref q_9, .ref q_2, .ref q_3, .int x_2, .int x_3, .int x_4, .int x_5, .int x_6, .int x_7, .int x_8, .int x_9, .int x_10, .int x_11, .int x_12])), (q_1, .inr (3, [.ref q_10, .ref q_11, .ref q_4, .ref q_12, .ref q_13, .ref q_14])), (q_2, .inl (k 0, 5, .inl f_0)), (q_3, .inl (k 0, 5, .inl f_1)), (q_4, .inr (5, [.int 0, .ref q_15, .ref q_16, .ref q_17, .ref q_18, .ref q_19, .ref q_20, .ref q_21, .ref q_22, .ref q_23, .ref q_24, .ref q_25, .ref q_26, .int x_13, .int x_14]))] s.heap := hP
  refine lv_aload_n hx hb dX1_countWeek_0 rfl (lv_at hl 0 rfl) ?_
  refine va_get (D := D) (ci := 1) (v := .ref q_1) (C := RX1) (T := TX1) (N := 19) hx hb hts inX1 hown hK hP 0 rfl rfl 0 (by decide) (hts _ kF_X1_34) (fun _ h9 => h9) rfl dX1_countWeek_1 ?_
  refine va_get (D := D) (ci := 3) (v := .ref q_4) (C := RX3) (T := TX3) (N := 6) hx hb hts inX3 hown hK hP 1 rfl rfl 2 (by decide) (hts _ kF_X1_38) (fun _ h9 => h9) rfl dX1_countWeek_4 ?_
  refine lv_astore_n (lv' := [(3, .ref q_4), (0, .ref q_0), (1, .int x_0), (2, .int x_1)]) hx hb dX1_countWeek_7 rfl hl (by decide) rfl (fun ls hl => ?_)
  refine lv_aload_n hx hb dX1_countWeek_8 rfl (lv_at hl 1 rfl) ?_
  refine va_get (D := D) (ci := 1) (v := .ref q_2) (C := RX1) (T := TX1) (N := 19) hx hb hts inX1 hown hK hP 0 rfl rfl 6 (by decide) (hts _ kF_X1_28) (fun _ h9 => h9) rfl dX1_countWeek_9 ?_
  refine lv_iconst (v := 0) hx hb dX1_countWeek_12 (by decide) ?_
  refine z_bv (wr := [(q_0, .inr (1, [.ref q_1, .ref q_5, .ref q_6, .ref q_7, .ref q_8, .ref q_9, .ref q_2, .ref q_3, .int x_2, .int x_3, .int x_4, .int x_5, .int x_6, .int x_7, .int x_8, .int x_9, .int x_10, .int x_11, .int x_12])), (q_1, .inr (3, [.ref q_10, .ref q_11, .ref q_4, .ref q_12, .ref q_13, .ref q_14])), (q_3, .inl (k 0, 5, .inl f_1)), (q_4, .inr (5, [.int 0, .ref q_15, .ref q_16, .ref q_17, .ref q_18, .ref q_19, .ref q_20, .ref q_21, .ref q_22, .ref q_23, .ref q_24, .ref q_25, .ref q_26, .int x_13, .int x_14]))]) (z_runS (As := [.ref q_2, .int 0]) (rest := []) C0 (c_fill l D k q_2 0 f_0 5 (by decide) _) okS_J7_fill_53178 kM_X1_129 rfl (z_pS hK hN hP hD [2] rfl rfl) rfl hl.1 rfl (Nat.le_of_ble_eq_true rfl) dX1_countWeek_13 rfl) hP hD hS hA [2] [0, 1, 3, 4] rfl rfl rfl rfl (fun u1 H locs hw1 hP hD hS => ?_)
  obtain ⟨i1, a1⟩ := u1
  dsimp only at hw1
  obtain rfl := hw1
  have hP : va_P D vwCl [(q_0, .inr (1, [.ref q_1, .ref q_5, .ref q_6, .ref q_7, .ref q_8, .ref q_9, .ref q_2, .ref q_3, .int x_2, .int x_3, .int x_4, .int x_5, .int x_6, .int x_7, .int x_8, .int x_9, .int x_10, .int x_11, .int x_12])), (q_1, .inr (3, [.ref q_10, .ref q_11, .ref q_4, .ref q_12, .ref q_13, .ref q_14])), (q_3, .inl (k 0, 5, .inl f_1)), (q_4, .inr (5, [.int 0, .ref q_15, .ref q_16, .ref q_17, .ref q_18, .ref q_19, .ref q_20, .ref q_21, .ref q_22, .ref q_23, .ref q_24, .ref q_25, .ref q_26, .int x_13, .int x_14])), (q_2, .inl (k 0, 5, .inl (fun _ => 0)))] H := hP
  have hD : va_D A [(q_0, .inr (1, [.ref q_1, .ref q_5, .ref q_6, .ref q_7, .ref q_8, .ref q_9, .ref q_2, .ref q_3, .int x_2, .int x_3, .int x_4, .int x_5, .int x_6, .int x_7, .int x_8, .int x_9, .int x_10, .int x_11, .int x_12])), (q_1, .inr (3, [.ref q_10, .ref q_11, .ref q_4, .ref q_12, .ref q_13, .ref q_14])), (q_3, .inl (k 0, 5, .inl f_1)), (q_4, .inr (5, [.int 0, .ref q_15, .ref q_16, .ref q_17, .ref q_18, .ref q_19, .ref q_20, .ref q_21, .ref q_22, .ref q_23, .ref q_24, .ref q_25, .ref q_26, .int x_13, .int x_14])), (q_2, .inl (k 0, 5, .inl (fun _ => 0)))] := hD
  refine lv_aload_n hx hb dX1_countWeek_16 rfl (lv_at hl 1 rfl) ?_
  refine va_get (D := D) (ci := 1) (v := .ref q_3) (C := RX1) (T := TX1) (N := 19) hx hb hts inX1 hown hK hP 0 rfl rfl 7 (by decide) (hts _ kF_X1_31) (fun _ h9 => h9) rfl dX1_countWeek_17 ?_
  refine lv_iconst (v := 0) hx hb dX1_countWeek_20 (by decide) ?_
  refine z_bv (wr := [(q_0, .inr (1, [.ref q_1, .ref q_5, .ref q_6, .ref q_7, .ref q_8, .ref q_9, .ref q_2, .ref q_3, .int x_2, .int x_3, .int x_4, .int x_5, .int x_6, .int x_7, .int x_8, .int x_9, .int x_10, .int x_11, .int x_12])), (q_1, .inr (3, [.ref q_10, .ref q_11, .ref q_4, .ref q_12, .ref q_13, .ref q_14])), (q_4, .inr (5, [.int 0, .ref q_15, .ref q_16, .ref q_17, .ref q_18, .ref q_19, .ref q_20, .ref q_21, .ref q_22, .ref q_23, .ref q_24, .ref q_25, .ref q_26, .int x_13, .int x_14])), (q_2, .inl (k 0, 5, .inl (fun _ => 0)))]) (z_runS (As := [.ref q_3, .int 0]) (rest := []) C0 (c_fill l D k q_3 0 f_1 5 (by decide) _) okS_J7_fill_53178 kM_X1_129 rfl (z_pS hK hN hP hD [2] rfl rfl) rfl hl.1 rfl (Nat.le_of_ble_eq_true rfl) dX1_countWeek_21 rfl) hP hD hS hA [2] [0, 1, 3, 4] rfl rfl rfl rfl (fun u2 H locs hw2 hP hD hS => ?_)
  obtain ⟨i2, a2⟩ := u2
  dsimp only at hw2
  obtain rfl := hw2
  have hP : va_P D vwCl [(q_0, .inr (1, [.ref q_1, .ref q_5, .ref q_6, .ref q_7, .ref q_8, .ref q_9, .ref q_2, .ref q_3, .int x_2, .int x_3, .int x_4, .int x_5, .int x_6, .int x_7, .int x_8, .int x_9, .int x_10, .int x_11, .int x_12])), (q_1, .inr (3, [.ref q_10, .ref q_11, .ref q_4, .ref q_12, .ref q_13, .ref q_14])), (q_4, .inr (5, [.int 0, .ref q_15, .ref q_16, .ref q_17, .ref q_18, .ref q_19, .ref q_20, .ref q_21, .ref q_22, .ref q_23, .ref q_24, .ref q_25, .ref q_26, .int x_13, .int x_14])), (q_2, .inl (k 0, 5, .inl (fun _ => 0))), (q_3, .inl (k 0, 5, .inl (fun _ => 0)))] H := hP
  have hD : va_D A [(q_0, .inr (1, [.ref q_1, .ref q_5, .ref q_6, .ref q_7, .ref q_8, .ref q_9, .ref q_2, .ref q_3, .int x_2, .int x_3, .int x_4, .int x_5, .int x_6, .int x_7, .int x_8, .int x_9, .int x_10, .int x_11, .int x_12])), (q_1, .inr (3, [.ref q_10, .ref q_11, .ref q_4, .ref q_12, .ref q_13, .ref q_14])), (q_4, .inr (5, [.int 0, .ref q_15, .ref q_16, .ref q_17, .ref q_18, .ref q_19, .ref q_20, .ref q_21, .ref q_22, .ref q_23, .ref q_24, .ref q_25, .ref q_26, .int x_13, .int x_14])), (q_2, .inl (k 0, 5, .inl (fun _ => 0))), (q_3, .inl (k 0, 5, .inl (fun _ => 0)))] := hD
  refine lv_iconst (v := 0) hx hb dX1_countWeek_24 (by decide) ?_
  refine lv_istore (lv' := [(4, .int 0), (3, .ref q_4), (0, .ref q_0), (1, .int x_0), (2, .int x_1)]) hx hb dX1_countWeek_25 hl (by decide) rfl (fun ls hl => ?_)
  refine lv_iload hx hb dX1_countWeek_27 (lv_at hl 0 rfl) ?_
  refine lv_aload_n hx hb dX1_countWeek_29 rfl (lv_at hl 1 rfl) ?_
  refine va_get (D := D) (ci := 5) (v := .int 0) (C := RX5) (T := TX5) (N := 15) hx hb hts inX5 hown hK hP 2 rfl rfl 0 (by decide) (hts _ kF_X1_196) (fun _ h9 => h9) rfl dX1_countWeek_30 ?_
  refine lv_icmp_ge (tgt := 127) hx hb dX1_countWeek_33 (by decide) (fun _ => ?_) (fun c3 => absurd (by decide) c3)
  exact z_vret C0 hr hlk hK hP hD hS (0, fun _ => 0) rfl [0, 1, 3, 4, 2] rfl rfl rfl dX1_countWeek_127

set_option maxHeartbeats 4000000 in
set_option maxRecDepth 100000 in
theorem c_X1_schoolsLookedAt_1 (l : Launch) (D : va_G) (k : Nat → ClassId) (q_0 : Nat) (q_1 : Nat) (q_2 : Nat) (q_3 : Nat) (q_4 : Nat) (q_5 : Nat) (q_6 : Nat) (q_7 : Nat) (q_8 : Nat) (x_0 : Int32) (x_1 : Int32) (x_2 : Int32) (x_3 : Int32) (x_4 : Int32) (x_5 : Int32) (x_6 : Int32) (x_7 : Int32) (x_8 : Int32) (x_9 : Int32) (x_10 : Int32) : zMi l yX1_schoolsLookedAt cX1_schoolsLookedAt 3 (some .int) ({ frames := 0, cells := 0, slots := 0, locals := 0 }) D k [.ref q_0] [(q_0, .inr (1, [.ref q_2, .ref q_3, .ref q_4, .ref q_5, .ref q_6, .ref q_7, .ref q_1, .ref q_8, .int x_0, .int x_1, .int x_2, .int x_3, .int x_4, .int x_5, .int x_6, .int x_7, .int x_8, .int x_9, .int x_10])), (q_1, .inl (k 0, 5, .inl (fun _ => 0)))] (fun r u => u.1 = 0 ∧ r = 0) (fun u => [(q_0, .inr (1, [.ref q_2, .ref q_3, .ref q_4, .ref q_5, .ref q_6, .ref q_7, .ref q_1, .ref q_8, .int x_0, .int x_1, .int x_2, .int x_3, .int x_4, .int x_5, .int x_6, .int x_7, .int x_8, .int x_9, .int x_10])), (q_1, .inl (k 0, 5, .inl (fun _ => 0)))]) := by
  refine zMi_of (own := RX1) (by decide +kernel) rfl (Nat.le_of_ble_eq_true rfl) ?_
  intro p e s m args below meth c A ls C0 hr hlk hin hP hD hS hA hK hN hl
  have hx := C0.1
  have hb := C0.2.1
  have hml := C0.2.2.1
  have hown := C0.2.2.2.1
  have hts := C0.2.2.2.2
  have hl : lv_has ls 3 [(0, .ref q_0)] := hl
  have hP : va_P D vwCl [(q_0, .inr (1, [.ref q_2, .ref q_3, .ref q_4, .ref q_5, .ref q_6, .ref q_7, .ref q_1, .ref q_8, .int x_0, .int x_1, .int x_2, .int x_3, .int x_4, .int x_5, .int x_6, .int x_7, .int x_8, .int x_9, .int x_10])), (q_1, .inl (k 0, 5, .inl (fun _ => 0)))] s.heap := hP
  refine lv_iconst (v := 0) hx hb dX1_schoolsLookedAt_0 (by decide) ?_
  refine lv_istore_n (lv' := [(1, .int 0), (0, .ref q_0)]) hx hb dX1_schoolsLookedAt_1 rfl hl (by decide) rfl (fun ls hl => ?_)
  refine lv_iconst (v := 0) hx hb dX1_schoolsLookedAt_2 (by decide) ?_
  refine lv_istore_n (lv' := [(2, .int 0), (1, .int 0), (0, .ref q_0)]) hx hb dX1_schoolsLookedAt_3 rfl hl (by decide) rfl (fun ls hl => ?_)
  refine lv_iload_n hx hb dX1_schoolsLookedAt_4 rfl (lv_at hl 0 rfl) ?_
  refine lv_iconst (v := 5) hx hb dX1_schoolsLookedAt_5 (by decide) ?_
  refine lv_icmp_ge (tgt := 32) hx hb dX1_schoolsLookedAt_6 (by decide) (fun c1 => absurd c1 (by decide)) (fun _ => ?_)
  refine lv_iload_n hx hb dX1_schoolsLookedAt_9 rfl (lv_at hl 1 rfl) ?_
  refine lv_aload_n hx hb dX1_schoolsLookedAt_10 rfl (lv_at hl 2 rfl) ?_
  refine va_get (D := D) (ci := 1) (v := .ref q_1) (C := RX1) (T := TX1) (N := 19) hx hb hts inX1 hown hK hP 0 rfl rfl 6 (by decide) (hts _ kF_X1_28) (fun _ h9 => h9) rfl dX1_schoolsLookedAt_11 ?_
  refine lv_iload_n hx hb dX1_schoolsLookedAt_14 rfl (lv_at hl 0 rfl) ?_
  refine va_iald hx hb hK hP 1 0 rfl rfl (by unfold vp_in; decide) dX1_schoolsLookedAt_15 ?_
  refine lv_toc (v := 0) rfl ?_
  refine lv_if_le (tgt := 23) hx hb dX1_schoolsLookedAt_16 (by decide) (fun _ => ?_) (fun c2 => absurd (by decide) c2)
  refine lv_iconst (v := 0) hx hb dX1_schoolsLookedAt_23 (by decide) ?_
  refine lv_iadd hx hb dX1_schoolsLookedAt_24 ?_
  refine lv_toc (v := 0) (by decide) ?_
  refine lv_istore_n (lv' := [(1, .int 0), (2, .int 0), (0, .ref q_0)]) hx hb dX1_schoolsLookedAt_25 rfl hl (by decide) rfl (fun ls hl => ?_)
  refine lv_iinc (v := 1) (lv' := [(2, .int 1), (1, .int 0), (0, .ref q_0)]) hx hb dX1_schoolsLookedAt_26 hl (k := 1) rfl (by decide) (by decide) rfl (fun ls hl => ?_)
  refine lv_goto (tgt := 4) hx hb dX1_schoolsLookedAt_29 (by decide) ?_
  refine lv_iload_n hx hb dX1_schoolsLookedAt_4 rfl (lv_at hl 0 rfl) ?_
  refine lv_iconst (v := 5) hx hb dX1_schoolsLookedAt_5 (by decide) ?_
  refine lv_icmp_ge (tgt := 32) hx hb dX1_schoolsLookedAt_6 (by decide) (fun c3 => absurd c3 (by decide)) (fun _ => ?_)
  refine lv_iload_n hx hb dX1_schoolsLookedAt_9 rfl (lv_at hl 1 rfl) ?_
  refine lv_aload_n hx hb dX1_schoolsLookedAt_10 rfl (lv_at hl 2 rfl) ?_
  refine va_get (D := D) (ci := 1) (v := .ref q_1) (C := RX1) (T := TX1) (N := 19) hx hb hts inX1 hown hK hP 0 rfl rfl 6 (by decide) (hts _ kF_X1_28) (fun _ h9 => h9) rfl dX1_schoolsLookedAt_11 ?_
  refine lv_iload_n hx hb dX1_schoolsLookedAt_14 rfl (lv_at hl 0 rfl) ?_
  refine va_iald hx hb hK hP 1 0 rfl rfl (by unfold vp_in; decide) dX1_schoolsLookedAt_15 ?_
  refine lv_toc (v := 0) rfl ?_
  refine lv_if_le (tgt := 23) hx hb dX1_schoolsLookedAt_16 (by decide) (fun _ => ?_) (fun c4 => absurd (by decide) c4)
  refine lv_iconst (v := 0) hx hb dX1_schoolsLookedAt_23 (by decide) ?_
  refine lv_iadd hx hb dX1_schoolsLookedAt_24 ?_
  refine lv_toc (v := 0) (by decide) ?_
  refine lv_istore_n (lv' := [(1, .int 0), (2, .int 1), (0, .ref q_0)]) hx hb dX1_schoolsLookedAt_25 rfl hl (by decide) rfl (fun ls hl => ?_)
  refine lv_iinc (v := 2) (lv' := [(2, .int 2), (1, .int 0), (0, .ref q_0)]) hx hb dX1_schoolsLookedAt_26 hl (k := 1) rfl (by decide) (by decide) rfl (fun ls hl => ?_)
  refine lv_goto (tgt := 4) hx hb dX1_schoolsLookedAt_29 (by decide) ?_
  refine lv_iload_n hx hb dX1_schoolsLookedAt_4 rfl (lv_at hl 0 rfl) ?_
  refine lv_iconst (v := 5) hx hb dX1_schoolsLookedAt_5 (by decide) ?_
  refine lv_icmp_ge (tgt := 32) hx hb dX1_schoolsLookedAt_6 (by decide) (fun c5 => absurd c5 (by decide)) (fun _ => ?_)
  refine lv_iload_n hx hb dX1_schoolsLookedAt_9 rfl (lv_at hl 1 rfl) ?_
  refine lv_aload_n hx hb dX1_schoolsLookedAt_10 rfl (lv_at hl 2 rfl) ?_
  refine va_get (D := D) (ci := 1) (v := .ref q_1) (C := RX1) (T := TX1) (N := 19) hx hb hts inX1 hown hK hP 0 rfl rfl 6 (by decide) (hts _ kF_X1_28) (fun _ h9 => h9) rfl dX1_schoolsLookedAt_11 ?_
  refine lv_iload_n hx hb dX1_schoolsLookedAt_14 rfl (lv_at hl 0 rfl) ?_
  refine va_iald hx hb hK hP 1 0 rfl rfl (by unfold vp_in; decide) dX1_schoolsLookedAt_15 ?_
  refine lv_toc (v := 0) rfl ?_
  refine lv_if_le (tgt := 23) hx hb dX1_schoolsLookedAt_16 (by decide) (fun _ => ?_) (fun c6 => absurd (by decide) c6)
  refine lv_iconst (v := 0) hx hb dX1_schoolsLookedAt_23 (by decide) ?_
  refine lv_iadd hx hb dX1_schoolsLookedAt_24 ?_
  refine lv_toc (v := 0) (by decide) ?_
  refine lv_istore_n (lv' := [(1, .int 0), (2, .int 2), (0, .ref q_0)]) hx hb dX1_schoolsLookedAt_25 rfl hl (by decide) rfl (fun ls hl => ?_)
  refine lv_iinc (v := 3) (lv' := [(2, .int 3), (1, .int 0), (0, .ref q_0)]) hx hb dX1_schoolsLookedAt_26 hl (k := 1) rfl (by decide) (by decide) rfl (fun ls hl => ?_)
  refine lv_goto (tgt := 4) hx hb dX1_schoolsLookedAt_29 (by decide) ?_
  refine lv_iload_n hx hb dX1_schoolsLookedAt_4 rfl (lv_at hl 0 rfl) ?_
  refine lv_iconst (v := 5) hx hb dX1_schoolsLookedAt_5 (by decide) ?_
  refine lv_icmp_ge (tgt := 32) hx hb dX1_schoolsLookedAt_6 (by decide) (fun c7 => absurd c7 (by decide)) (fun _ => ?_)
  refine lv_iload_n hx hb dX1_schoolsLookedAt_9 rfl (lv_at hl 1 rfl) ?_
  refine lv_aload_n hx hb dX1_schoolsLookedAt_10 rfl (lv_at hl 2 rfl) ?_
  refine va_get (D := D) (ci := 1) (v := .ref q_1) (C := RX1) (T := TX1) (N := 19) hx hb hts inX1 hown hK hP 0 rfl rfl 6 (by decide) (hts _ kF_X1_28) (fun _ h9 => h9) rfl dX1_schoolsLookedAt_11 ?_
  refine lv_iload_n hx hb dX1_schoolsLookedAt_14 rfl (lv_at hl 0 rfl) ?_
  refine va_iald hx hb hK hP 1 0 rfl rfl (by unfold vp_in; decide) dX1_schoolsLookedAt_15 ?_
  refine lv_toc (v := 0) rfl ?_
  refine lv_if_le (tgt := 23) hx hb dX1_schoolsLookedAt_16 (by decide) (fun _ => ?_) (fun c8 => absurd (by decide) c8)
  refine lv_iconst (v := 0) hx hb dX1_schoolsLookedAt_23 (by decide) ?_
  refine lv_iadd hx hb dX1_schoolsLookedAt_24 ?_
  refine lv_toc (v := 0) (by decide) ?_
  refine lv_istore_n (lv' := [(1, .int 0), (2, .int 3), (0, .ref q_0)]) hx hb dX1_schoolsLookedAt_25 rfl hl (by decide) rfl (fun ls hl => ?_)
  refine lv_iinc (v := 4) (lv' := [(2, .int 4), (1, .int 0), (0, .ref q_0)]) hx hb dX1_schoolsLookedAt_26 hl (k := 1) rfl (by decide) (by decide) rfl (fun ls hl => ?_)
  refine lv_goto (tgt := 4) hx hb dX1_schoolsLookedAt_29 (by decide) ?_
  refine lv_iload_n hx hb dX1_schoolsLookedAt_4 rfl (lv_at hl 0 rfl) ?_
  refine lv_iconst (v := 5) hx hb dX1_schoolsLookedAt_5 (by decide) ?_
  refine lv_icmp_ge (tgt := 32) hx hb dX1_schoolsLookedAt_6 (by decide) (fun c9 => absurd c9 (by decide)) (fun _ => ?_)
  refine lv_iload_n hx hb dX1_schoolsLookedAt_9 rfl (lv_at hl 1 rfl) ?_
  refine lv_aload_n hx hb dX1_schoolsLookedAt_10 rfl (lv_at hl 2 rfl) ?_
  refine va_get (D := D) (ci := 1) (v := .ref q_1) (C := RX1) (T := TX1) (N := 19) hx hb hts inX1 hown hK hP 0 rfl rfl 6 (by decide) (hts _ kF_X1_28) (fun _ h9 => h9) rfl dX1_schoolsLookedAt_11 ?_
  refine lv_iload_n hx hb dX1_schoolsLookedAt_14 rfl (lv_at hl 0 rfl) ?_
  refine va_iald hx hb hK hP 1 0 rfl rfl (by unfold vp_in; decide) dX1_schoolsLookedAt_15 ?_
  refine lv_toc (v := 0) rfl ?_
  refine lv_if_le (tgt := 23) hx hb dX1_schoolsLookedAt_16 (by decide) (fun _ => ?_) (fun c10 => absurd (by decide) c10)
  refine lv_iconst (v := 0) hx hb dX1_schoolsLookedAt_23 (by decide) ?_
  refine lv_iadd hx hb dX1_schoolsLookedAt_24 ?_
  refine lv_toc (v := 0) (by decide) ?_
  refine lv_istore_n (lv' := [(1, .int 0), (2, .int 4), (0, .ref q_0)]) hx hb dX1_schoolsLookedAt_25 rfl hl (by decide) rfl (fun ls hl => ?_)
  refine lv_iinc (v := 5) (lv' := [(2, .int 5), (1, .int 0), (0, .ref q_0)]) hx hb dX1_schoolsLookedAt_26 hl (k := 1) rfl (by decide) (by decide) rfl (fun ls hl => ?_)
  refine lv_goto (tgt := 4) hx hb dX1_schoolsLookedAt_29 (by decide) ?_
  refine lv_iload_n hx hb dX1_schoolsLookedAt_4 rfl (lv_at hl 0 rfl) ?_
  refine lv_iconst (v := 5) hx hb dX1_schoolsLookedAt_5 (by decide) ?_
  refine lv_icmp_ge (tgt := 32) hx hb dX1_schoolsLookedAt_6 (by decide) (fun _ => ?_) (fun c11 => absurd (by decide) c11)
  refine lv_iload_n hx hb dX1_schoolsLookedAt_32 rfl (lv_at hl 1 rfl) ?_
  exact z_iret C0 hr hlk rfl hK hP hD hS (0, fun _ => 0) ⟨rfl, rfl⟩ [0, 1] rfl rfl rfl dX1_schoolsLookedAt_33

set_option maxHeartbeats 4000000 in
set_option maxRecDepth 100000 in
theorem c_X1_dippingSchools_1 (l : Launch) (D : va_G) (k : Nat → ClassId) (q_0 : Nat) (q_1 : Nat) (q_2 : Nat) (q_3 : Nat) (q_4 : Nat) (q_5 : Nat) (q_6 : Nat) (q_7 : Nat) (q_8 : Nat) (x_0 : Int32) (x_1 : Int32) (x_2 : Int32) (x_3 : Int32) (x_4 : Int32) (x_5 : Int32) (x_6 : Int32) (x_7 : Int32) (x_8 : Int32) (x_9 : Int32) (x_10 : Int32) (x_11 : Int32) : zMi l yX1_dippingSchools cX1_dippingSchools 14 (some .int) ({ frames := 1, cells := 0, slots := 0, locals := 22 }) D k [.ref q_0, .int x_0] [(q_0, .inr (1, [.ref q_3, .ref q_4, .ref q_5, .ref q_6, .ref q_7, .ref q_8, .ref q_1, .ref q_2, .int x_1, .int x_2, .int x_3, .int x_4, .int x_5, .int x_6, .int x_7, .int x_8, .int x_9, .int x_10, .int x_11])), (q_1, .inl (k 0, 5, .inl (fun _ => 0))), (q_2, .inl (k 0, 5, .inl (fun _ => 0)))] (fun r u => u.1 = 0 ∧ r = 0) (fun u => [(q_0, .inr (1, [.ref q_3, .ref q_4, .ref q_5, .ref q_6, .ref q_7, .ref q_8, .ref q_1, .ref q_2, .int x_1, .int x_2, .int x_3, .int x_4, .int x_5, .int x_6, .int x_7, .int x_8, .int x_9, .int x_10, .int x_11])), (q_1, .inl (k 0, 5, .inl (fun _ => 0))), (q_2, .inl (k 0, 5, .inl (fun _ => 0)))]) := by
  refine zMi_of (own := RX1) (by decide +kernel) rfl (Nat.le_of_ble_eq_true rfl) ?_
  intro p e s m args below meth c A ls C0 hr hlk hin hP hD hS hA hK hN hl
  have hx := C0.1
  have hb := C0.2.1
  have hml := C0.2.2.1
  have hown := C0.2.2.2.1
  have hts := C0.2.2.2.2
  have hl : lv_has ls 14 [(0, .ref q_0), (1, .int x_0)] := hl
  have hP : va_P D vwCl [(q_0, .inr (1, [.ref q_3, .ref q_4, .ref q_5, .ref q_6, .ref q_7, .ref q_8, .ref q_1, .ref q_2, .int x_1, .int x_2, .int x_3, .int x_4, .int x_5, .int x_6, .int x_7, .int x_8, .int x_9, .int x_10, .int x_11])), (q_1, .inl (k 0, 5, .inl (fun _ => 0))), (q_2, .inl (k 0, 5, .inl (fun _ => 0)))] s.heap := hP
  refine lv_lconst (v := 0) hx hb dX1_dippingSchools_0 (by decide) ?_
  refine lv_lstore_n (lv' := [(2, .long 0), (0, .ref q_0), (1, .int x_0)]) hx hb dX1_dippingSchools_1 rfl hl (by decide) rfl (fun ls hl => ?_)
  refine lv_lconst (v := 0) hx hb dX1_dippingSchools_2 (by decide) ?_
  refine lv_lstore (lv' := [(4, .long 0), (2, .long 0), (0, .ref q_0), (1, .int x_0)]) hx hb dX1_dippingSchools_3 hl (by decide) rfl (fun ls hl => ?_)
  refine lv_iconst (v := 0) hx hb dX1_dippingSchools_5 (by decide) ?_
  refine lv_istore (lv' := [(6, .int 0), (4, .long 0), (2, .long 0), (0, .ref q_0), (1, .int x_0)]) hx hb dX1_dippingSchools_6 hl (by decide) rfl (fun ls hl => ?_)
  refine lv_iload hx hb dX1_dippingSchools_8 (lv_at hl 0 rfl) ?_
  refine lv_iconst (v := 5) hx hb dX1_dippingSchools_10 (by decide) ?_
  refine lv_icmp_ge (tgt := 44) hx hb dX1_dippingSchools_11 (by decide) (fun c1 => absurd c1 (by decide)) (fun _ => ?_)
  refine lv_lload_n hx hb dX1_dippingSchools_14 rfl (lv_at hl 2 rfl) ?_
  refine lv_aload_n hx hb dX1_dippingSchools_15 rfl (lv_at hl 3 rfl) ?_
  refine va_get (D := D) (ci := 1) (v := .ref q_1) (C := RX1) (T := TX1) (N := 19) hx hb hts inX1 hown hK hP 0 rfl rfl 6 (by decide) (hts _ kF_X1_28) (fun _ h9 => h9) rfl dX1_dippingSchools_16 ?_
  refine lv_iload hx hb dX1_dippingSchools_19 (lv_at hl 0 rfl) ?_
  refine va_iald hx hb hK hP 1 0 rfl rfl (by unfold vp_in; decide) dX1_dippingSchools_21 ?_
  refine lv_toc (v := 0) rfl ?_
  refine lv_i2l (v := 0) hx hb dX1_dippingSchools_22 (by decide) ?_
  refine lv_ladd hx hb dX1_dippingSchools_23 ?_
  refine lv_tocl (v := 0) (by decide) ?_
  refine lv_lstore_n (lv' := [(2, .long 0), (6, .int 0), (4, .long 0), (0, .ref q_0), (1, .int x_0)]) hx hb dX1_dippingSchools_24 rfl hl (by decide) rfl (fun ls hl => ?_)
  refine lv_lload hx hb dX1_dippingSchools_25 (lv_at hl 2 rfl) ?_
  refine lv_aload_n hx hb dX1_dippingSchools_27 rfl (lv_at hl 3 rfl) ?_
  refine va_get (D := D) (ci := 1) (v := .ref q_2) (C := RX1) (T := TX1) (N := 19) hx hb hts inX1 hown hK hP 0 rfl rfl 7 (by decide) (hts _ kF_X1_31) (fun _ h9 => h9) rfl dX1_dippingSchools_28 ?_
  refine lv_iload hx hb dX1_dippingSchools_31 (lv_at hl 1 rfl) ?_
  refine va_iald hx hb hK hP 2 0 rfl rfl (by unfold vp_in; decide) dX1_dippingSchools_33 ?_
  refine lv_toc (v := 0) rfl ?_
  refine lv_i2l (v := 0) hx hb dX1_dippingSchools_34 (by decide) ?_
  refine lv_ladd hx hb dX1_dippingSchools_35 ?_
  refine lv_tocl (v := 0) (by decide) ?_
  refine lv_lstore (lv' := [(4, .long 0), (2, .long 0), (6, .int 0), (0, .ref q_0), (1, .int x_0)]) hx hb dX1_dippingSchools_36 hl (by decide) rfl (fun ls hl => ?_)
  refine lv_iinc (v := 1) (lv' := [(6, .int 1), (4, .long 0), (2, .long 0), (0, .ref q_0), (1, .int x_0)]) hx hb dX1_dippingSchools_38 hl (k := 2) rfl (by decide) (by decide) rfl (fun ls hl => ?_)
  refine lv_goto (tgt := 8) hx hb dX1_dippingSchools_41 (by decide) ?_
  refine lv_iload hx hb dX1_dippingSchools_8 (lv_at hl 0 rfl) ?_
  refine lv_iconst (v := 5) hx hb dX1_dippingSchools_10 (by decide) ?_
  refine lv_icmp_ge (tgt := 44) hx hb dX1_dippingSchools_11 (by decide) (fun c2 => absurd c2 (by decide)) (fun _ => ?_)
  refine lv_lload_n hx hb dX1_dippingSchools_14 rfl (lv_at hl 2 rfl) ?_
  refine lv_aload_n hx hb dX1_dippingSchools_15 rfl (lv_at hl 3 rfl) ?_
  refine va_get (D := D) (ci := 1) (v := .ref q_1) (C := RX1) (T := TX1) (N := 19) hx hb hts inX1 hown hK hP 0 rfl rfl 6 (by decide) (hts _ kF_X1_28) (fun _ h9 => h9) rfl dX1_dippingSchools_16 ?_
  refine lv_iload hx hb dX1_dippingSchools_19 (lv_at hl 0 rfl) ?_
  refine va_iald hx hb hK hP 1 0 rfl rfl (by unfold vp_in; decide) dX1_dippingSchools_21 ?_
  refine lv_toc (v := 0) rfl ?_
  refine lv_i2l (v := 0) hx hb dX1_dippingSchools_22 (by decide) ?_
  refine lv_ladd hx hb dX1_dippingSchools_23 ?_
  refine lv_tocl (v := 0) (by decide) ?_
  refine lv_lstore_n (lv' := [(2, .long 0), (6, .int 1), (4, .long 0), (0, .ref q_0), (1, .int x_0)]) hx hb dX1_dippingSchools_24 rfl hl (by decide) rfl (fun ls hl => ?_)
  refine lv_lload hx hb dX1_dippingSchools_25 (lv_at hl 2 rfl) ?_
  refine lv_aload_n hx hb dX1_dippingSchools_27 rfl (lv_at hl 3 rfl) ?_
  refine va_get (D := D) (ci := 1) (v := .ref q_2) (C := RX1) (T := TX1) (N := 19) hx hb hts inX1 hown hK hP 0 rfl rfl 7 (by decide) (hts _ kF_X1_31) (fun _ h9 => h9) rfl dX1_dippingSchools_28 ?_
  refine lv_iload hx hb dX1_dippingSchools_31 (lv_at hl 1 rfl) ?_
  refine va_iald hx hb hK hP 2 0 rfl rfl (by unfold vp_in; decide) dX1_dippingSchools_33 ?_
  refine lv_toc (v := 0) rfl ?_
  refine lv_i2l (v := 0) hx hb dX1_dippingSchools_34 (by decide) ?_
  refine lv_ladd hx hb dX1_dippingSchools_35 ?_
  refine lv_tocl (v := 0) (by decide) ?_
  refine lv_lstore (lv' := [(4, .long 0), (2, .long 0), (6, .int 1), (0, .ref q_0), (1, .int x_0)]) hx hb dX1_dippingSchools_36 hl (by decide) rfl (fun ls hl => ?_)
  refine lv_iinc (v := 2) (lv' := [(6, .int 2), (4, .long 0), (2, .long 0), (0, .ref q_0), (1, .int x_0)]) hx hb dX1_dippingSchools_38 hl (k := 2) rfl (by decide) (by decide) rfl (fun ls hl => ?_)
  refine lv_goto (tgt := 8) hx hb dX1_dippingSchools_41 (by decide) ?_
  refine lv_iload hx hb dX1_dippingSchools_8 (lv_at hl 0 rfl) ?_
  refine lv_iconst (v := 5) hx hb dX1_dippingSchools_10 (by decide) ?_
  refine lv_icmp_ge (tgt := 44) hx hb dX1_dippingSchools_11 (by decide) (fun c3 => absurd c3 (by decide)) (fun _ => ?_)
  refine lv_lload_n hx hb dX1_dippingSchools_14 rfl (lv_at hl 2 rfl) ?_
  refine lv_aload_n hx hb dX1_dippingSchools_15 rfl (lv_at hl 3 rfl) ?_
  refine va_get (D := D) (ci := 1) (v := .ref q_1) (C := RX1) (T := TX1) (N := 19) hx hb hts inX1 hown hK hP 0 rfl rfl 6 (by decide) (hts _ kF_X1_28) (fun _ h9 => h9) rfl dX1_dippingSchools_16 ?_
  refine lv_iload hx hb dX1_dippingSchools_19 (lv_at hl 0 rfl) ?_
  refine va_iald hx hb hK hP 1 0 rfl rfl (by unfold vp_in; decide) dX1_dippingSchools_21 ?_
  refine lv_toc (v := 0) rfl ?_
  refine lv_i2l (v := 0) hx hb dX1_dippingSchools_22 (by decide) ?_
  refine lv_ladd hx hb dX1_dippingSchools_23 ?_
  refine lv_tocl (v := 0) (by decide) ?_
  refine lv_lstore_n (lv' := [(2, .long 0), (6, .int 2), (4, .long 0), (0, .ref q_0), (1, .int x_0)]) hx hb dX1_dippingSchools_24 rfl hl (by decide) rfl (fun ls hl => ?_)
  refine lv_lload hx hb dX1_dippingSchools_25 (lv_at hl 2 rfl) ?_
  refine lv_aload_n hx hb dX1_dippingSchools_27 rfl (lv_at hl 3 rfl) ?_
  refine va_get (D := D) (ci := 1) (v := .ref q_2) (C := RX1) (T := TX1) (N := 19) hx hb hts inX1 hown hK hP 0 rfl rfl 7 (by decide) (hts _ kF_X1_31) (fun _ h9 => h9) rfl dX1_dippingSchools_28 ?_
  refine lv_iload hx hb dX1_dippingSchools_31 (lv_at hl 1 rfl) ?_
  refine va_iald hx hb hK hP 2 0 rfl rfl (by unfold vp_in; decide) dX1_dippingSchools_33 ?_
  refine lv_toc (v := 0) rfl ?_
  refine lv_i2l (v := 0) hx hb dX1_dippingSchools_34 (by decide) ?_
  refine lv_ladd hx hb dX1_dippingSchools_35 ?_
  refine lv_tocl (v := 0) (by decide) ?_
  refine lv_lstore (lv' := [(4, .long 0), (2, .long 0), (6, .int 2), (0, .ref q_0), (1, .int x_0)]) hx hb dX1_dippingSchools_36 hl (by decide) rfl (fun ls hl => ?_)
  refine lv_iinc (v := 3) (lv' := [(6, .int 3), (4, .long 0), (2, .long 0), (0, .ref q_0), (1, .int x_0)]) hx hb dX1_dippingSchools_38 hl (k := 2) rfl (by decide) (by decide) rfl (fun ls hl => ?_)
  refine lv_goto (tgt := 8) hx hb dX1_dippingSchools_41 (by decide) ?_
  refine lv_iload hx hb dX1_dippingSchools_8 (lv_at hl 0 rfl) ?_
  refine lv_iconst (v := 5) hx hb dX1_dippingSchools_10 (by decide) ?_
  refine lv_icmp_ge (tgt := 44) hx hb dX1_dippingSchools_11 (by decide) (fun c4 => absurd c4 (by decide)) (fun _ => ?_)
  refine lv_lload_n hx hb dX1_dippingSchools_14 rfl (lv_at hl 2 rfl) ?_
  refine lv_aload_n hx hb dX1_dippingSchools_15 rfl (lv_at hl 3 rfl) ?_
  refine va_get (D := D) (ci := 1) (v := .ref q_1) (C := RX1) (T := TX1) (N := 19) hx hb hts inX1 hown hK hP 0 rfl rfl 6 (by decide) (hts _ kF_X1_28) (fun _ h9 => h9) rfl dX1_dippingSchools_16 ?_
  refine lv_iload hx hb dX1_dippingSchools_19 (lv_at hl 0 rfl) ?_
  refine va_iald hx hb hK hP 1 0 rfl rfl (by unfold vp_in; decide) dX1_dippingSchools_21 ?_
  refine lv_toc (v := 0) rfl ?_
  refine lv_i2l (v := 0) hx hb dX1_dippingSchools_22 (by decide) ?_
  refine lv_ladd hx hb dX1_dippingSchools_23 ?_
  refine lv_tocl (v := 0) (by decide) ?_
  refine lv_lstore_n (lv' := [(2, .long 0), (6, .int 3), (4, .long 0), (0, .ref q_0), (1, .int x_0)]) hx hb dX1_dippingSchools_24 rfl hl (by decide) rfl (fun ls hl => ?_)
  refine lv_lload hx hb dX1_dippingSchools_25 (lv_at hl 2 rfl) ?_
  refine lv_aload_n hx hb dX1_dippingSchools_27 rfl (lv_at hl 3 rfl) ?_
  refine va_get (D := D) (ci := 1) (v := .ref q_2) (C := RX1) (T := TX1) (N := 19) hx hb hts inX1 hown hK hP 0 rfl rfl 7 (by decide) (hts _ kF_X1_31) (fun _ h9 => h9) rfl dX1_dippingSchools_28 ?_
  refine lv_iload hx hb dX1_dippingSchools_31 (lv_at hl 1 rfl) ?_
  refine va_iald hx hb hK hP 2 0 rfl rfl (by unfold vp_in; decide) dX1_dippingSchools_33 ?_
  refine lv_toc (v := 0) rfl ?_
  refine lv_i2l (v := 0) hx hb dX1_dippingSchools_34 (by decide) ?_
  refine lv_ladd hx hb dX1_dippingSchools_35 ?_
  refine lv_tocl (v := 0) (by decide) ?_
  refine lv_lstore (lv' := [(4, .long 0), (2, .long 0), (6, .int 3), (0, .ref q_0), (1, .int x_0)]) hx hb dX1_dippingSchools_36 hl (by decide) rfl (fun ls hl => ?_)
  refine lv_iinc (v := 4) (lv' := [(6, .int 4), (4, .long 0), (2, .long 0), (0, .ref q_0), (1, .int x_0)]) hx hb dX1_dippingSchools_38 hl (k := 2) rfl (by decide) (by decide) rfl (fun ls hl => ?_)
  refine lv_goto (tgt := 8) hx hb dX1_dippingSchools_41 (by decide) ?_
  refine lv_iload hx hb dX1_dippingSchools_8 (lv_at hl 0 rfl) ?_
  refine lv_iconst (v := 5) hx hb dX1_dippingSchools_10 (by decide) ?_
  refine lv_icmp_ge (tgt := 44) hx hb dX1_dippingSchools_11 (by decide) (fun c5 => absurd c5 (by decide)) (fun _ => ?_)
  refine lv_lload_n hx hb dX1_dippingSchools_14 rfl (lv_at hl 2 rfl) ?_
  refine lv_aload_n hx hb dX1_dippingSchools_15 rfl (lv_at hl 3 rfl) ?_
  refine va_get (D := D) (ci := 1) (v := .ref q_1) (C := RX1) (T := TX1) (N := 19) hx hb hts inX1 hown hK hP 0 rfl rfl 6 (by decide) (hts _ kF_X1_28) (fun _ h9 => h9) rfl dX1_dippingSchools_16 ?_
  refine lv_iload hx hb dX1_dippingSchools_19 (lv_at hl 0 rfl) ?_
  refine va_iald hx hb hK hP 1 0 rfl rfl (by unfold vp_in; decide) dX1_dippingSchools_21 ?_
  refine lv_toc (v := 0) rfl ?_
  refine lv_i2l (v := 0) hx hb dX1_dippingSchools_22 (by decide) ?_
  refine lv_ladd hx hb dX1_dippingSchools_23 ?_
  refine lv_tocl (v := 0) (by decide) ?_
  refine lv_lstore_n (lv' := [(2, .long 0), (6, .int 4), (4, .long 0), (0, .ref q_0), (1, .int x_0)]) hx hb dX1_dippingSchools_24 rfl hl (by decide) rfl (fun ls hl => ?_)
  refine lv_lload hx hb dX1_dippingSchools_25 (lv_at hl 2 rfl) ?_
  refine lv_aload_n hx hb dX1_dippingSchools_27 rfl (lv_at hl 3 rfl) ?_
  refine va_get (D := D) (ci := 1) (v := .ref q_2) (C := RX1) (T := TX1) (N := 19) hx hb hts inX1 hown hK hP 0 rfl rfl 7 (by decide) (hts _ kF_X1_31) (fun _ h9 => h9) rfl dX1_dippingSchools_28 ?_
  refine lv_iload hx hb dX1_dippingSchools_31 (lv_at hl 1 rfl) ?_
  refine va_iald hx hb hK hP 2 0 rfl rfl (by unfold vp_in; decide) dX1_dippingSchools_33 ?_
  refine lv_toc (v := 0) rfl ?_
  refine lv_i2l (v := 0) hx hb dX1_dippingSchools_34 (by decide) ?_
  refine lv_ladd hx hb dX1_dippingSchools_35 ?_
  refine lv_tocl (v := 0) (by decide) ?_
  refine lv_lstore (lv' := [(4, .long 0), (2, .long 0), (6, .int 4), (0, .ref q_0), (1, .int x_0)]) hx hb dX1_dippingSchools_36 hl (by decide) rfl (fun ls hl => ?_)
  refine lv_iinc (v := 5) (lv' := [(6, .int 5), (4, .long 0), (2, .long 0), (0, .ref q_0), (1, .int x_0)]) hx hb dX1_dippingSchools_38 hl (k := 2) rfl (by decide) (by decide) rfl (fun ls hl => ?_)
  refine lv_goto (tgt := 8) hx hb dX1_dippingSchools_41 (by decide) ?_
  refine lv_iload hx hb dX1_dippingSchools_8 (lv_at hl 0 rfl) ?_
  refine lv_iconst (v := 5) hx hb dX1_dippingSchools_10 (by decide) ?_
  refine lv_icmp_ge (tgt := 44) hx hb dX1_dippingSchools_11 (by decide) (fun _ => ?_) (fun c6 => absurd (by decide) c6)
  refine lv_iload_n hx hb dX1_dippingSchools_44 rfl (lv_at hl 4 rfl) ?_
  refine lv_i2l (v := (Int32.toInt64 x_0)) hx hb dX1_dippingSchools_45 rfl ?_
  refine lv_iload_n hx hb dX1_dippingSchools_46 rfl (lv_at hl 4 rfl) ?_
  refine lv_i2l (v := (Int32.toInt64 x_0)) hx hb dX1_dippingSchools_47 rfl ?_
  refine lv_lmul hx hb dX1_dippingSchools_48 ?_
  refine lv_aload_n hx hb dX1_dippingSchools_49 rfl (lv_at hl 3 rfl) ?_
  refine z_bi (wr := [(q_2, .inl (k 0, 5, .inl (fun _ => 0)))]) (z_runV (C := RX1) (As := []) (rest := [.long ((Int32.toInt64 x_0) * (Int32.toInt64 x_0))]) C0 (c_X1_schoolsLookedAt_1 l D k q_0 q_1 q_3 q_4 q_5 q_6 q_7 q_8 q_2 x_1 x_2 x_3 x_4 x_5 x_6 x_7 x_8 x_9 x_10 x_11 _) okV_X1_schoolsLookedAt kM_X1_236 rfl (z_pV (q0 := 0) hK hN hP hD [0, 1] rfl rfl rfl rfl rfl) rfl hl.1 rfl (Nat.le_of_ble_eq_true rfl) dX1_dippingSchools_50 rfl) hP hD hS hA [0, 1] [2] rfl rfl rfl rfl (fun r7 u7 H locs hw7 hP hD hS => ?_)
  obtain ⟨i7, a7⟩ := u7
  dsimp only at hw7
  obtain ⟨rfl, rfl⟩ := hw7
  have hP : va_P D vwCl [(q_2, .inl (k 0, 5, .inl (fun _ => 0))), (q_0, .inr (1, [.ref q_3, .ref q_4, .ref q_5, .ref q_6, .ref q_7, .ref q_8, .ref q_1, .ref q_2, .int x_1, .int x_2, .int x_3, .int x_4, .int x_5, .int x_6, .int x_7, .int x_8, .int x_9, .int x_10, .int x_11])), (q_1, .inl (k 0, 5, .inl (fun _ => 0)))] H := hP
  have hD : va_D A [(q_2, .inl (k 0, 5, .inl (fun _ => 0))), (q_0, .inr (1, [.ref q_3, .ref q_4, .ref q_5, .ref q_6, .ref q_7, .ref q_8, .ref q_1, .ref q_2, .int x_1, .int x_2, .int x_3, .int x_4, .int x_5, .int x_6, .int x_7, .int x_8, .int x_9, .int x_10, .int x_11])), (q_1, .inl (k 0, 5, .inl (fun _ => 0)))] := hD
  refine lv_i2l (v := 0) hx hb dX1_dippingSchools_53 (by decide) ?_
  refine lv_lmul hx hb dX1_dippingSchools_54 ?_
  refine lv_lstore (lv' := [(6, .long (((Int32.toInt64 x_0) * (Int32.toInt64 x_0)) * 0)), (4, .long 0), (2, .long 0), (0, .ref q_0), (1, .int x_0)]) hx hb dX1_dippingSchools_55 hl (by decide) rfl (fun ls hl => ?_)
  refine lv_iconst (v := 0) hx hb dX1_dippingSchools_57 (by decide) ?_
  refine lv_istore (lv' := [(8, .int 0), (6, .long (((Int32.toInt64 x_0) * (Int32.toInt64 x_0)) * 0)), (4, .long 0), (2, .long 0), (0, .ref q_0), (1, .int x_0)]) hx hb dX1_dippingSchools_58 hl (by decide) rfl (fun ls hl => ?_)
  refine lv_iconst (v := 0) hx hb dX1_dippingSchools_60 (by decide) ?_
  refine lv_istore (lv' := [(9, .int 0), (8, .int 0), (6, .long (((Int32.toInt64 x_0) * (Int32.toInt64 x_0)) * 0)), (4, .long 0), (2, .long 0), (0, .ref q_0), (1, .int x_0)]) hx hb dX1_dippingSchools_61 hl (by decide) rfl (fun ls hl => ?_)
  refine lv_iload hx hb dX1_dippingSchools_63 (lv_at hl 0 rfl) ?_
  refine lv_iconst (v := 5) hx hb dX1_dippingSchools_65 (by decide) ?_
  refine lv_icmp_ge (tgt := 162) hx hb dX1_dippingSchools_66 (by decide) (fun c8 => absurd c8 (by decide)) (fun _ => ?_)
  refine lv_aload_n hx hb dX1_dippingSchools_69 rfl (lv_at hl 5 rfl) ?_
  refine va_get (D := D) (ci := 1) (v := .ref q_2) (C := RX1) (T := TX1) (N := 19) hx hb hts inX1 hown hK hP 1 rfl rfl 7 (by decide) (hts _ kF_X1_31) (fun _ h9 => h9) rfl dX1_dippingSchools_70 ?_
  refine lv_iload hx hb dX1_dippingSchools_73 (lv_at hl 0 rfl) ?_
  refine va_iald hx hb hK hP 0 0 rfl rfl (by unfold vp_in; decide) dX1_dippingSchools_75 ?_
  refine lv_toc (v := 0) rfl ?_
  refine lv_i2l (v := 0) hx hb dX1_dippingSchools_76 (by decide) ?_
  refine lv_lload_n hx hb dX1_dippingSchools_77 rfl (lv_at hl 4 rfl) ?_
  refine lv_lmul hx hb dX1_dippingSchools_78 ?_
  refine lv_tocl (v := 0) (by decide) ?_
  refine lv_aload_n hx hb dX1_dippingSchools_79 rfl (lv_at hl 5 rfl) ?_
  refine va_get (D := D) (ci := 1) (v := .ref q_1) (C := RX1) (T := TX1) (N := 19) hx hb hts inX1 hown hK hP 1 rfl rfl 6 (by decide) (hts _ kF_X1_28) (fun _ h9 => h9) rfl dX1_dippingSchools_80 ?_
  refine lv_iload hx hb dX1_dippingSchools_83 (lv_at hl 0 rfl) ?_
  refine va_iald hx hb hK hP 2 0 rfl rfl (by unfold vp_in; decide) dX1_dippingSchools_85 ?_
  refine lv_toc (v := 0) rfl ?_
  refine lv_i2l (v := 0) hx hb dX1_dippingSchools_86 (by decide) ?_
  refine lv_lload hx hb dX1_dippingSchools_87 (lv_at hl 3 rfl) ?_
  refine lv_lmul hx hb dX1_dippingSchools_89 ?_
  refine lv_tocl (v := 0) (by decide) ?_
  refine lv_lsub hx hb dX1_dippingSchools_90 ?_
  refine lv_tocl (v := 0) (by decide) ?_
  refine lv_lstore (lv' := [(10, .long 0), (9, .int 0), (8, .int 0), (6, .long (((Int32.toInt64 x_0) * (Int32.toInt64 x_0)) * 0)), (4, .long 0), (2, .long 0), (0, .ref q_0), (1, .int x_0)]) hx hb dX1_dippingSchools_91 hl (by decide) rfl (fun ls hl => ?_)
  refine lv_aload_n hx hb dX1_dippingSchools_93 rfl (lv_at hl 6 rfl) ?_
  refine va_get (D := D) (ci := 1) (v := .ref q_1) (C := RX1) (T := TX1) (N := 19) hx hb hts inX1 hown hK hP 1 rfl rfl 6 (by decide) (hts _ kF_X1_28) (fun _ h9 => h9) rfl dX1_dippingSchools_94 ?_
  refine lv_iload hx hb dX1_dippingSchools_97 (lv_at hl 1 rfl) ?_
  refine va_iald hx hb hK hP 2 0 rfl rfl (by unfold vp_in; decide) dX1_dippingSchools_99 ?_
  refine lv_toc (v := 0) rfl ?_
  refine lv_i2l (v := 0) hx hb dX1_dippingSchools_100 (by decide) ?_
  refine lv_lload hx hb dX1_dippingSchools_101 (lv_at hl 4 rfl) ?_
  refine lv_lmul hx hb dX1_dippingSchools_103 ?_
  refine lv_tocl (v := 0) (by decide) ?_
  refine lv_lload_n hx hb dX1_dippingSchools_104 rfl (lv_at hl 5 rfl) ?_
  refine lv_aload_n hx hb dX1_dippingSchools_105 rfl (lv_at hl 6 rfl) ?_
  refine va_get (D := D) (ci := 1) (v := .ref q_1) (C := RX1) (T := TX1) (N := 19) hx hb hts inX1 hown hK hP 1 rfl rfl 6 (by decide) (hts _ kF_X1_28) (fun _ h9 => h9) rfl dX1_dippingSchools_106 ?_
  refine lv_iload hx hb dX1_dippingSchools_109 (lv_at hl 1 rfl) ?_
  refine va_iald hx hb hK hP 2 0 rfl rfl (by unfold vp_in; decide) dX1_dippingSchools_111 ?_
  refine lv_toc (v := 0) rfl ?_
  refine lv_i2l (v := 0) hx hb dX1_dippingSchools_112 (by decide) ?_
  refine lv_lsub hx hb dX1_dippingSchools_113 ?_
  refine lv_tocl (v := 0) (by decide) ?_
  refine lv_lmul hx hb dX1_dippingSchools_114 ?_
  refine lv_tocl (v := 0) (by decide) ?_
  refine lv_lload_n hx hb dX1_dippingSchools_115 rfl (lv_at hl 5 rfl) ?_
  refine lv_lload hx hb dX1_dippingSchools_116 (lv_at hl 4 rfl) ?_
  refine lv_lsub hx hb dX1_dippingSchools_118 ?_
  refine lv_tocl (v := 0) (by decide) ?_
  refine lv_lmul hx hb dX1_dippingSchools_119 ?_
  refine lv_tocl (v := 0) (by decide) ?_
  refine lv_lstore (lv' := [(12, .long 0), (10, .long 0), (9, .int 0), (8, .int 0), (6, .long (((Int32.toInt64 x_0) * (Int32.toInt64 x_0)) * 0)), (4, .long 0), (2, .long 0), (0, .ref q_0), (1, .int x_0)]) hx hb dX1_dippingSchools_120 hl (by decide) rfl (fun ls hl => ?_)
  refine lv_lload hx hb dX1_dippingSchools_122 (lv_at hl 1 rfl) ?_
  refine lv_lconst (v := 0) hx hb dX1_dippingSchools_124 (by decide) ?_
  refine W.lcmp hx hb dX1_dippingSchools_125 ?_
  refine lv_toc (v := 0) (by decide) ?_
  refine lv_if_le (tgt := 156) hx hb dX1_dippingSchools_126 (by decide) (fun _ => ?_) (fun c9 => absurd (by decide) c9)
  refine lv_iinc (v := 1) (lv' := [(9, .int 1), (12, .long 0), (10, .long 0), (8, .int 0), (6, .long (((Int32.toInt64 x_0) * (Int32.toInt64 x_0)) * 0)), (4, .long 0), (2, .long 0), (0, .ref q_0), (1, .int x_0)]) hx hb dX1_dippingSchools_156 hl (k := 2) rfl (by decide) (by decide) rfl (fun ls hl => ?_)
  refine lv_goto (tgt := 63) hx hb dX1_dippingSchools_159 (by decide) ?_
  refine lv_iload hx hb dX1_dippingSchools_63 (lv_at hl 0 rfl) ?_
  refine lv_iconst (v := 5) hx hb dX1_dippingSchools_65 (by decide) ?_
  refine lv_icmp_ge (tgt := 162) hx hb dX1_dippingSchools_66 (by decide) (fun c10 => absurd c10 (by decide)) (fun _ => ?_)
  refine lv_aload_n hx hb dX1_dippingSchools_69 rfl (lv_at hl 7 rfl) ?_
  refine va_get (D := D) (ci := 1) (v := .ref q_2) (C := RX1) (T := TX1) (N := 19) hx hb hts inX1 hown hK hP 1 rfl rfl 7 (by decide) (hts _ kF_X1_31) (fun _ h9 => h9) rfl dX1_dippingSchools_70 ?_
  refine lv_iload hx hb dX1_dippingSchools_73 (lv_at hl 0 rfl) ?_
  refine va_iald hx hb hK hP 0 0 rfl rfl (by unfold vp_in; decide) dX1_dippingSchools_75 ?_
  refine lv_toc (v := 0) rfl ?_
  refine lv_i2l (v := 0) hx hb dX1_dippingSchools_76 (by decide) ?_
  refine lv_lload_n hx hb dX1_dippingSchools_77 rfl (lv_at hl 6 rfl) ?_
  refine lv_lmul hx hb dX1_dippingSchools_78 ?_
  refine lv_tocl (v := 0) (by decide) ?_
  refine lv_aload_n hx hb dX1_dippingSchools_79 rfl (lv_at hl 7 rfl) ?_
  refine va_get (D := D) (ci := 1) (v := .ref q_1) (C := RX1) (T := TX1) (N := 19) hx hb hts inX1 hown hK hP 1 rfl rfl 6 (by decide) (hts _ kF_X1_28) (fun _ h9 => h9) rfl dX1_dippingSchools_80 ?_
  refine lv_iload hx hb dX1_dippingSchools_83 (lv_at hl 0 rfl) ?_
  refine va_iald hx hb hK hP 2 0 rfl rfl (by unfold vp_in; decide) dX1_dippingSchools_85 ?_
  refine lv_toc (v := 0) rfl ?_
  refine lv_i2l (v := 0) hx hb dX1_dippingSchools_86 (by decide) ?_
  refine lv_lload hx hb dX1_dippingSchools_87 (lv_at hl 5 rfl) ?_
  refine lv_lmul hx hb dX1_dippingSchools_89 ?_
  refine lv_tocl (v := 0) (by decide) ?_
  refine lv_lsub hx hb dX1_dippingSchools_90 ?_
  refine lv_tocl (v := 0) (by decide) ?_
  refine lv_lstore (lv' := [(10, .long 0), (9, .int 1), (12, .long 0), (8, .int 0), (6, .long (((Int32.toInt64 x_0) * (Int32.toInt64 x_0)) * 0)), (4, .long 0), (2, .long 0), (0, .ref q_0), (1, .int x_0)]) hx hb dX1_dippingSchools_91 hl (by decide) rfl (fun ls hl => ?_)
  refine lv_aload_n hx hb dX1_dippingSchools_93 rfl (lv_at hl 7 rfl) ?_
  refine va_get (D := D) (ci := 1) (v := .ref q_1) (C := RX1) (T := TX1) (N := 19) hx hb hts inX1 hown hK hP 1 rfl rfl 6 (by decide) (hts _ kF_X1_28) (fun _ h9 => h9) rfl dX1_dippingSchools_94 ?_
  refine lv_iload hx hb dX1_dippingSchools_97 (lv_at hl 1 rfl) ?_
  refine va_iald hx hb hK hP 2 0 rfl rfl (by unfold vp_in; decide) dX1_dippingSchools_99 ?_
  refine lv_toc (v := 0) rfl ?_
  refine lv_i2l (v := 0) hx hb dX1_dippingSchools_100 (by decide) ?_
  refine lv_lload hx hb dX1_dippingSchools_101 (lv_at hl 5 rfl) ?_
  refine lv_lmul hx hb dX1_dippingSchools_103 ?_
  refine lv_tocl (v := 0) (by decide) ?_
  refine lv_lload_n hx hb dX1_dippingSchools_104 rfl (lv_at hl 6 rfl) ?_
  refine lv_aload_n hx hb dX1_dippingSchools_105 rfl (lv_at hl 7 rfl) ?_
  refine va_get (D := D) (ci := 1) (v := .ref q_1) (C := RX1) (T := TX1) (N := 19) hx hb hts inX1 hown hK hP 1 rfl rfl 6 (by decide) (hts _ kF_X1_28) (fun _ h9 => h9) rfl dX1_dippingSchools_106 ?_
  refine lv_iload hx hb dX1_dippingSchools_109 (lv_at hl 1 rfl) ?_
  refine va_iald hx hb hK hP 2 0 rfl rfl (by unfold vp_in; decide) dX1_dippingSchools_111 ?_
  refine lv_toc (v := 0) rfl ?_
  refine lv_i2l (v := 0) hx hb dX1_dippingSchools_112 (by decide) ?_
  refine lv_lsub hx hb dX1_dippingSchools_113 ?_
  refine lv_tocl (v := 0) (by decide) ?_
  refine lv_lmul hx hb dX1_dippingSchools_114 ?_
  refine lv_tocl (v := 0) (by decide) ?_
  refine lv_lload_n hx hb dX1_dippingSchools_115 rfl (lv_at hl 6 rfl) ?_
  refine lv_lload hx hb dX1_dippingSchools_116 (lv_at hl 5 rfl) ?_
  refine lv_lsub hx hb dX1_dippingSchools_118 ?_
  refine lv_tocl (v := 0) (by decide) ?_
  refine lv_lmul hx hb dX1_dippingSchools_119 ?_
  refine lv_tocl (v := 0) (by decide) ?_
  refine lv_lstore (lv' := [(12, .long 0), (10, .long 0), (9, .int 1), (8, .int 0), (6, .long (((Int32.toInt64 x_0) * (Int32.toInt64 x_0)) * 0)), (4, .long 0), (2, .long 0), (0, .ref q_0), (1, .int x_0)]) hx hb dX1_dippingSchools_120 hl (by decide) rfl (fun ls hl => ?_)
  refine lv_lload hx hb dX1_dippingSchools_122 (lv_at hl 1 rfl) ?_
  refine lv_lconst (v := 0) hx hb dX1_dippingSchools_124 (by decide) ?_
  refine W.lcmp hx hb dX1_dippingSchools_125 ?_
  refine lv_toc (v := 0) (by decide) ?_
  refine lv_if_le (tgt := 156) hx hb dX1_dippingSchools_126 (by decide) (fun _ => ?_) (fun c11 => absurd (by decide) c11)
  refine lv_iinc (v := 2) (lv' := [(9, .int 2), (12, .long 0), (10, .long 0), (8, .int 0), (6, .long (((Int32.toInt64 x_0) * (Int32.toInt64 x_0)) * 0)), (4, .long 0), (2, .long 0), (0, .ref q_0), (1, .int x_0)]) hx hb dX1_dippingSchools_156 hl (k := 2) rfl (by decide) (by decide) rfl (fun ls hl => ?_)
  refine lv_goto (tgt := 63) hx hb dX1_dippingSchools_159 (by decide) ?_
  refine lv_iload hx hb dX1_dippingSchools_63 (lv_at hl 0 rfl) ?_
  refine lv_iconst (v := 5) hx hb dX1_dippingSchools_65 (by decide) ?_
  refine lv_icmp_ge (tgt := 162) hx hb dX1_dippingSchools_66 (by decide) (fun c12 => absurd c12 (by decide)) (fun _ => ?_)
  refine lv_aload_n hx hb dX1_dippingSchools_69 rfl (lv_at hl 7 rfl) ?_
  refine va_get (D := D) (ci := 1) (v := .ref q_2) (C := RX1) (T := TX1) (N := 19) hx hb hts inX1 hown hK hP 1 rfl rfl 7 (by decide) (hts _ kF_X1_31) (fun _ h9 => h9) rfl dX1_dippingSchools_70 ?_
  refine lv_iload hx hb dX1_dippingSchools_73 (lv_at hl 0 rfl) ?_
  refine va_iald hx hb hK hP 0 0 rfl rfl (by unfold vp_in; decide) dX1_dippingSchools_75 ?_
  refine lv_toc (v := 0) rfl ?_
  refine lv_i2l (v := 0) hx hb dX1_dippingSchools_76 (by decide) ?_
  refine lv_lload_n hx hb dX1_dippingSchools_77 rfl (lv_at hl 6 rfl) ?_
  refine lv_lmul hx hb dX1_dippingSchools_78 ?_
  refine lv_tocl (v := 0) (by decide) ?_
  refine lv_aload_n hx hb dX1_dippingSchools_79 rfl (lv_at hl 7 rfl) ?_
  refine va_get (D := D) (ci := 1) (v := .ref q_1) (C := RX1) (T := TX1) (N := 19) hx hb hts inX1 hown hK hP 1 rfl rfl 6 (by decide) (hts _ kF_X1_28) (fun _ h9 => h9) rfl dX1_dippingSchools_80 ?_
  refine lv_iload hx hb dX1_dippingSchools_83 (lv_at hl 0 rfl) ?_
  refine va_iald hx hb hK hP 2 0 rfl rfl (by unfold vp_in; decide) dX1_dippingSchools_85 ?_
  refine lv_toc (v := 0) rfl ?_
  refine lv_i2l (v := 0) hx hb dX1_dippingSchools_86 (by decide) ?_
  refine lv_lload hx hb dX1_dippingSchools_87 (lv_at hl 5 rfl) ?_
  refine lv_lmul hx hb dX1_dippingSchools_89 ?_
  refine lv_tocl (v := 0) (by decide) ?_
  refine lv_lsub hx hb dX1_dippingSchools_90 ?_
  refine lv_tocl (v := 0) (by decide) ?_
  refine lv_lstore (lv' := [(10, .long 0), (9, .int 2), (12, .long 0), (8, .int 0), (6, .long (((Int32.toInt64 x_0) * (Int32.toInt64 x_0)) * 0)), (4, .long 0), (2, .long 0), (0, .ref q_0), (1, .int x_0)]) hx hb dX1_dippingSchools_91 hl (by decide) rfl (fun ls hl => ?_)
  refine lv_aload_n hx hb dX1_dippingSchools_93 rfl (lv_at hl 7 rfl) ?_
  refine va_get (D := D) (ci := 1) (v := .ref q_1) (C := RX1) (T := TX1) (N := 19) hx hb hts inX1 hown hK hP 1 rfl rfl 6 (by decide) (hts _ kF_X1_28) (fun _ h9 => h9) rfl dX1_dippingSchools_94 ?_
  refine lv_iload hx hb dX1_dippingSchools_97 (lv_at hl 1 rfl) ?_
  refine va_iald hx hb hK hP 2 0 rfl rfl (by unfold vp_in; decide) dX1_dippingSchools_99 ?_
  refine lv_toc (v := 0) rfl ?_
  refine lv_i2l (v := 0) hx hb dX1_dippingSchools_100 (by decide) ?_
  refine lv_lload hx hb dX1_dippingSchools_101 (lv_at hl 5 rfl) ?_
  refine lv_lmul hx hb dX1_dippingSchools_103 ?_
  refine lv_tocl (v := 0) (by decide) ?_
  refine lv_lload_n hx hb dX1_dippingSchools_104 rfl (lv_at hl 6 rfl) ?_
  refine lv_aload_n hx hb dX1_dippingSchools_105 rfl (lv_at hl 7 rfl) ?_
  refine va_get (D := D) (ci := 1) (v := .ref q_1) (C := RX1) (T := TX1) (N := 19) hx hb hts inX1 hown hK hP 1 rfl rfl 6 (by decide) (hts _ kF_X1_28) (fun _ h9 => h9) rfl dX1_dippingSchools_106 ?_
  refine lv_iload hx hb dX1_dippingSchools_109 (lv_at hl 1 rfl) ?_
  refine va_iald hx hb hK hP 2 0 rfl rfl (by unfold vp_in; decide) dX1_dippingSchools_111 ?_
  refine lv_toc (v := 0) rfl ?_
  refine lv_i2l (v := 0) hx hb dX1_dippingSchools_112 (by decide) ?_
  refine lv_lsub hx hb dX1_dippingSchools_113 ?_
  refine lv_tocl (v := 0) (by decide) ?_
  refine lv_lmul hx hb dX1_dippingSchools_114 ?_
  refine lv_tocl (v := 0) (by decide) ?_
  refine lv_lload_n hx hb dX1_dippingSchools_115 rfl (lv_at hl 6 rfl) ?_
  refine lv_lload hx hb dX1_dippingSchools_116 (lv_at hl 5 rfl) ?_
  refine lv_lsub hx hb dX1_dippingSchools_118 ?_
  refine lv_tocl (v := 0) (by decide) ?_
  refine lv_lmul hx hb dX1_dippingSchools_119 ?_
  refine lv_tocl (v := 0) (by decide) ?_
  refine lv_lstore (lv' := [(12, .long 0), (10, .long 0), (9, .int 2), (8, .int 0), (6, .long (((Int32.toInt64 x_0) * (Int32.toInt64 x_0)) * 0)), (4, .long 0), (2, .long 0), (0, .ref q_0), (1, .int x_0)]) hx hb dX1_dippingSchools_120 hl (by decide) rfl (fun ls hl => ?_)
  refine lv_lload hx hb dX1_dippingSchools_122 (lv_at hl 1 rfl) ?_
  refine lv_lconst (v := 0) hx hb dX1_dippingSchools_124 (by decide) ?_
  refine W.lcmp hx hb dX1_dippingSchools_125 ?_
  refine lv_toc (v := 0) (by decide) ?_
  refine lv_if_le (tgt := 156) hx hb dX1_dippingSchools_126 (by decide) (fun _ => ?_) (fun c13 => absurd (by decide) c13)
  refine lv_iinc (v := 3) (lv' := [(9, .int 3), (12, .long 0), (10, .long 0), (8, .int 0), (6, .long (((Int32.toInt64 x_0) * (Int32.toInt64 x_0)) * 0)), (4, .long 0), (2, .long 0), (0, .ref q_0), (1, .int x_0)]) hx hb dX1_dippingSchools_156 hl (k := 2) rfl (by decide) (by decide) rfl (fun ls hl => ?_)
  refine lv_goto (tgt := 63) hx hb dX1_dippingSchools_159 (by decide) ?_
  refine lv_iload hx hb dX1_dippingSchools_63 (lv_at hl 0 rfl) ?_
  refine lv_iconst (v := 5) hx hb dX1_dippingSchools_65 (by decide) ?_
  refine lv_icmp_ge (tgt := 162) hx hb dX1_dippingSchools_66 (by decide) (fun c14 => absurd c14 (by decide)) (fun _ => ?_)
  refine lv_aload_n hx hb dX1_dippingSchools_69 rfl (lv_at hl 7 rfl) ?_
  refine va_get (D := D) (ci := 1) (v := .ref q_2) (C := RX1) (T := TX1) (N := 19) hx hb hts inX1 hown hK hP 1 rfl rfl 7 (by decide) (hts _ kF_X1_31) (fun _ h9 => h9) rfl dX1_dippingSchools_70 ?_
  refine lv_iload hx hb dX1_dippingSchools_73 (lv_at hl 0 rfl) ?_
  refine va_iald hx hb hK hP 0 0 rfl rfl (by unfold vp_in; decide) dX1_dippingSchools_75 ?_
  refine lv_toc (v := 0) rfl ?_
  refine lv_i2l (v := 0) hx hb dX1_dippingSchools_76 (by decide) ?_
  refine lv_lload_n hx hb dX1_dippingSchools_77 rfl (lv_at hl 6 rfl) ?_
  refine lv_lmul hx hb dX1_dippingSchools_78 ?_
  refine lv_tocl (v := 0) (by decide) ?_
  refine lv_aload_n hx hb dX1_dippingSchools_79 rfl (lv_at hl 7 rfl) ?_
  refine va_get (D := D) (ci := 1) (v := .ref q_1) (C := RX1) (T := TX1) (N := 19) hx hb hts inX1 hown hK hP 1 rfl rfl 6 (by decide) (hts _ kF_X1_28) (fun _ h9 => h9) rfl dX1_dippingSchools_80 ?_
  refine lv_iload hx hb dX1_dippingSchools_83 (lv_at hl 0 rfl) ?_
  refine va_iald hx hb hK hP 2 0 rfl rfl (by unfold vp_in; decide) dX1_dippingSchools_85 ?_
  refine lv_toc (v := 0) rfl ?_
  refine lv_i2l (v := 0) hx hb dX1_dippingSchools_86 (by decide) ?_
  refine lv_lload hx hb dX1_dippingSchools_87 (lv_at hl 5 rfl) ?_
  refine lv_lmul hx hb dX1_dippingSchools_89 ?_
  refine lv_tocl (v := 0) (by decide) ?_
  refine lv_lsub hx hb dX1_dippingSchools_90 ?_
  refine lv_tocl (v := 0) (by decide) ?_
  refine lv_lstore (lv' := [(10, .long 0), (9, .int 3), (12, .long 0), (8, .int 0), (6, .long (((Int32.toInt64 x_0) * (Int32.toInt64 x_0)) * 0)), (4, .long 0), (2, .long 0), (0, .ref q_0), (1, .int x_0)]) hx hb dX1_dippingSchools_91 hl (by decide) rfl (fun ls hl => ?_)
  refine lv_aload_n hx hb dX1_dippingSchools_93 rfl (lv_at hl 7 rfl) ?_
  refine va_get (D := D) (ci := 1) (v := .ref q_1) (C := RX1) (T := TX1) (N := 19) hx hb hts inX1 hown hK hP 1 rfl rfl 6 (by decide) (hts _ kF_X1_28) (fun _ h9 => h9) rfl dX1_dippingSchools_94 ?_
  refine lv_iload hx hb dX1_dippingSchools_97 (lv_at hl 1 rfl) ?_
  refine va_iald hx hb hK hP 2 0 rfl rfl (by unfold vp_in; decide) dX1_dippingSchools_99 ?_
  refine lv_toc (v := 0) rfl ?_
  refine lv_i2l (v := 0) hx hb dX1_dippingSchools_100 (by decide) ?_
  refine lv_lload hx hb dX1_dippingSchools_101 (lv_at hl 5 rfl) ?_
  refine lv_lmul hx hb dX1_dippingSchools_103 ?_
  refine lv_tocl (v := 0) (by decide) ?_
  refine lv_lload_n hx hb dX1_dippingSchools_104 rfl (lv_at hl 6 rfl) ?_
  refine lv_aload_n hx hb dX1_dippingSchools_105 rfl (lv_at hl 7 rfl) ?_
  refine va_get (D := D) (ci := 1) (v := .ref q_1) (C := RX1) (T := TX1) (N := 19) hx hb hts inX1 hown hK hP 1 rfl rfl 6 (by decide) (hts _ kF_X1_28) (fun _ h9 => h9) rfl dX1_dippingSchools_106 ?_
  refine lv_iload hx hb dX1_dippingSchools_109 (lv_at hl 1 rfl) ?_
  refine va_iald hx hb hK hP 2 0 rfl rfl (by unfold vp_in; decide) dX1_dippingSchools_111 ?_
  refine lv_toc (v := 0) rfl ?_
  refine lv_i2l (v := 0) hx hb dX1_dippingSchools_112 (by decide) ?_
  refine lv_lsub hx hb dX1_dippingSchools_113 ?_
  refine lv_tocl (v := 0) (by decide) ?_
  refine lv_lmul hx hb dX1_dippingSchools_114 ?_
  refine lv_tocl (v := 0) (by decide) ?_
  refine lv_lload_n hx hb dX1_dippingSchools_115 rfl (lv_at hl 6 rfl) ?_
  refine lv_lload hx hb dX1_dippingSchools_116 (lv_at hl 5 rfl) ?_
  refine lv_lsub hx hb dX1_dippingSchools_118 ?_
  refine lv_tocl (v := 0) (by decide) ?_
  refine lv_lmul hx hb dX1_dippingSchools_119 ?_
  refine lv_tocl (v := 0) (by decide) ?_
  refine lv_lstore (lv' := [(12, .long 0), (10, .long 0), (9, .int 3), (8, .int 0), (6, .long (((Int32.toInt64 x_0) * (Int32.toInt64 x_0)) * 0)), (4, .long 0), (2, .long 0), (0, .ref q_0), (1, .int x_0)]) hx hb dX1_dippingSchools_120 hl (by decide) rfl (fun ls hl => ?_)
  refine lv_lload hx hb dX1_dippingSchools_122 (lv_at hl 1 rfl) ?_
  refine lv_lconst (v := 0) hx hb dX1_dippingSchools_124 (by decide) ?_
  refine W.lcmp hx hb dX1_dippingSchools_125 ?_
  refine lv_toc (v := 0) (by decide) ?_
  refine lv_if_le (tgt := 156) hx hb dX1_dippingSchools_126 (by decide) (fun _ => ?_) (fun c15 => absurd (by decide) c15)
  refine lv_iinc (v := 4) (lv' := [(9, .int 4), (12, .long 0), (10, .long 0), (8, .int 0), (6, .long (((Int32.toInt64 x_0) * (Int32.toInt64 x_0)) * 0)), (4, .long 0), (2, .long 0), (0, .ref q_0), (1, .int x_0)]) hx hb dX1_dippingSchools_156 hl (k := 2) rfl (by decide) (by decide) rfl (fun ls hl => ?_)
  refine lv_goto (tgt := 63) hx hb dX1_dippingSchools_159 (by decide) ?_
  refine lv_iload hx hb dX1_dippingSchools_63 (lv_at hl 0 rfl) ?_
  refine lv_iconst (v := 5) hx hb dX1_dippingSchools_65 (by decide) ?_
  refine lv_icmp_ge (tgt := 162) hx hb dX1_dippingSchools_66 (by decide) (fun c16 => absurd c16 (by decide)) (fun _ => ?_)
  refine lv_aload_n hx hb dX1_dippingSchools_69 rfl (lv_at hl 7 rfl) ?_
  refine va_get (D := D) (ci := 1) (v := .ref q_2) (C := RX1) (T := TX1) (N := 19) hx hb hts inX1 hown hK hP 1 rfl rfl 7 (by decide) (hts _ kF_X1_31) (fun _ h9 => h9) rfl dX1_dippingSchools_70 ?_
  refine lv_iload hx hb dX1_dippingSchools_73 (lv_at hl 0 rfl) ?_
  refine va_iald hx hb hK hP 0 0 rfl rfl (by unfold vp_in; decide) dX1_dippingSchools_75 ?_
  refine lv_toc (v := 0) rfl ?_
  refine lv_i2l (v := 0) hx hb dX1_dippingSchools_76 (by decide) ?_
  refine lv_lload_n hx hb dX1_dippingSchools_77 rfl (lv_at hl 6 rfl) ?_
  refine lv_lmul hx hb dX1_dippingSchools_78 ?_
  refine lv_tocl (v := 0) (by decide) ?_
  refine lv_aload_n hx hb dX1_dippingSchools_79 rfl (lv_at hl 7 rfl) ?_
  refine va_get (D := D) (ci := 1) (v := .ref q_1) (C := RX1) (T := TX1) (N := 19) hx hb hts inX1 hown hK hP 1 rfl rfl 6 (by decide) (hts _ kF_X1_28) (fun _ h9 => h9) rfl dX1_dippingSchools_80 ?_
  refine lv_iload hx hb dX1_dippingSchools_83 (lv_at hl 0 rfl) ?_
  refine va_iald hx hb hK hP 2 0 rfl rfl (by unfold vp_in; decide) dX1_dippingSchools_85 ?_
  refine lv_toc (v := 0) rfl ?_
  refine lv_i2l (v := 0) hx hb dX1_dippingSchools_86 (by decide) ?_
  refine lv_lload hx hb dX1_dippingSchools_87 (lv_at hl 5 rfl) ?_
  refine lv_lmul hx hb dX1_dippingSchools_89 ?_
  refine lv_tocl (v := 0) (by decide) ?_
  refine lv_lsub hx hb dX1_dippingSchools_90 ?_
  refine lv_tocl (v := 0) (by decide) ?_
  refine lv_lstore (lv' := [(10, .long 0), (9, .int 4), (12, .long 0), (8, .int 0), (6, .long (((Int32.toInt64 x_0) * (Int32.toInt64 x_0)) * 0)), (4, .long 0), (2, .long 0), (0, .ref q_0), (1, .int x_0)]) hx hb dX1_dippingSchools_91 hl (by decide) rfl (fun ls hl => ?_)
  refine lv_aload_n hx hb dX1_dippingSchools_93 rfl (lv_at hl 7 rfl) ?_
  refine va_get (D := D) (ci := 1) (v := .ref q_1) (C := RX1) (T := TX1) (N := 19) hx hb hts inX1 hown hK hP 1 rfl rfl 6 (by decide) (hts _ kF_X1_28) (fun _ h9 => h9) rfl dX1_dippingSchools_94 ?_
  refine lv_iload hx hb dX1_dippingSchools_97 (lv_at hl 1 rfl) ?_
  refine va_iald hx hb hK hP 2 0 rfl rfl (by unfold vp_in; decide) dX1_dippingSchools_99 ?_
  refine lv_toc (v := 0) rfl ?_
  refine lv_i2l (v := 0) hx hb dX1_dippingSchools_100 (by decide) ?_
  refine lv_lload hx hb dX1_dippingSchools_101 (lv_at hl 5 rfl) ?_
  refine lv_lmul hx hb dX1_dippingSchools_103 ?_
  refine lv_tocl (v := 0) (by decide) ?_
  refine lv_lload_n hx hb dX1_dippingSchools_104 rfl (lv_at hl 6 rfl) ?_
  refine lv_aload_n hx hb dX1_dippingSchools_105 rfl (lv_at hl 7 rfl) ?_
  refine va_get (D := D) (ci := 1) (v := .ref q_1) (C := RX1) (T := TX1) (N := 19) hx hb hts inX1 hown hK hP 1 rfl rfl 6 (by decide) (hts _ kF_X1_28) (fun _ h9 => h9) rfl dX1_dippingSchools_106 ?_
  refine lv_iload hx hb dX1_dippingSchools_109 (lv_at hl 1 rfl) ?_
  refine va_iald hx hb hK hP 2 0 rfl rfl (by unfold vp_in; decide) dX1_dippingSchools_111 ?_
  refine lv_toc (v := 0) rfl ?_
  refine lv_i2l (v := 0) hx hb dX1_dippingSchools_112 (by decide) ?_
  refine lv_lsub hx hb dX1_dippingSchools_113 ?_
  refine lv_tocl (v := 0) (by decide) ?_
  refine lv_lmul hx hb dX1_dippingSchools_114 ?_
  refine lv_tocl (v := 0) (by decide) ?_
  refine lv_lload_n hx hb dX1_dippingSchools_115 rfl (lv_at hl 6 rfl) ?_
  refine lv_lload hx hb dX1_dippingSchools_116 (lv_at hl 5 rfl) ?_
  refine lv_lsub hx hb dX1_dippingSchools_118 ?_
  refine lv_tocl (v := 0) (by decide) ?_
  refine lv_lmul hx hb dX1_dippingSchools_119 ?_
  refine lv_tocl (v := 0) (by decide) ?_
  refine lv_lstore (lv' := [(12, .long 0), (10, .long 0), (9, .int 4), (8, .int 0), (6, .long (((Int32.toInt64 x_0) * (Int32.toInt64 x_0)) * 0)), (4, .long 0), (2, .long 0), (0, .ref q_0), (1, .int x_0)]) hx hb dX1_dippingSchools_120 hl (by decide) rfl (fun ls hl => ?_)
  refine lv_lload hx hb dX1_dippingSchools_122 (lv_at hl 1 rfl) ?_
  refine lv_lconst (v := 0) hx hb dX1_dippingSchools_124 (by decide) ?_
  refine W.lcmp hx hb dX1_dippingSchools_125 ?_
  refine lv_toc (v := 0) (by decide) ?_
  refine lv_if_le (tgt := 156) hx hb dX1_dippingSchools_126 (by decide) (fun _ => ?_) (fun c17 => absurd (by decide) c17)
  refine lv_iinc (v := 5) (lv' := [(9, .int 5), (12, .long 0), (10, .long 0), (8, .int 0), (6, .long (((Int32.toInt64 x_0) * (Int32.toInt64 x_0)) * 0)), (4, .long 0), (2, .long 0), (0, .ref q_0), (1, .int x_0)]) hx hb dX1_dippingSchools_156 hl (k := 2) rfl (by decide) (by decide) rfl (fun ls hl => ?_)
  refine lv_goto (tgt := 63) hx hb dX1_dippingSchools_159 (by decide) ?_
  refine lv_iload hx hb dX1_dippingSchools_63 (lv_at hl 0 rfl) ?_
  refine lv_iconst (v := 5) hx hb dX1_dippingSchools_65 (by decide) ?_
  refine lv_icmp_ge (tgt := 162) hx hb dX1_dippingSchools_66 (by decide) (fun _ => ?_) (fun c18 => absurd (by decide) c18)
  refine lv_iload hx hb dX1_dippingSchools_162 (lv_at hl 3 rfl) ?_
  exact z_iret C0 hr hlk rfl hK hP hD hS (0, fun _ => 0) ⟨rfl, rfl⟩ [1, 2, 0] rfl rfl rfl dX1_dippingSchools_164

set_option maxHeartbeats 4000000 in
set_option maxRecDepth 100000 in
theorem c_X11_dips_1 (l : Launch) (D : va_G) (k : Nat → ClassId) (q_0 : Nat) (q_1 : Nat) (q_2 : Nat) (q_3 : Nat) (q_4 : Nat) (q_5 : Nat) (q_6 : Nat) (q_7 : Nat) (q_8 : Nat) (q_9 : Nat) (q_10 : Nat) (q_11 : Nat) (q_12 : Nat) (q_13 : Nat) (q_14 : Nat) (q_15 : Nat) (q_16 : Nat) (q_17 : Nat) (q_18 : Nat) (q_19 : Nat) (q_20 : Nat) (q_21 : Nat) (q_22 : Nat) (q_23 : Nat) (q_24 : Nat) (q_25 : Nat) (q_26 : Nat) (q_27 : Nat) (q_28 : Nat) (q_29 : Nat) (q_30 : Nat) (x_0 : Int32) (x_1 : Int32) (x_2 : Int32) (x_3 : Int32) (x_4 : Int32) (x_5 : Int32) (x_6 : Int32) (x_7 : Int32) (x_8 : Int32) (x_9 : Int32) (x_10 : Int32) (x_11 : Int32) (x_12 : Int32) (x_13 : Int32) (x_14 : Int32) (x_15 : Int32) (x_16 : Int32) (x_17 : Int32) : zMi l yX11_dips cX11_dips 5 (some .int) ({ frames := 2, cells := 0, slots := 0, locals := 55 }) D k [.ref q_0, .int x_0, .int x_1, .int x_2, .int x_3] [(q_0, .inr (11, [.ref q_2, .ref q_6, .ref q_7, .ref q_1, .ref q_8, .int x_4])), (q_1, .inr (1, [.ref q_2, .ref q_9, .ref q_10, .ref q_11, .ref q_12, .ref q_13, .ref q_3, .ref q_4, .int x_5, .int x_6, .int x_7, .int x_8, .int x_9, .int x_10, .int x_11, .int x_12, .int x_13, .int x_14, .int x_15])), (q_2, .inr (3, [.ref q_14, .ref q_15, .ref q_5, .ref q_16, .ref q_17, .ref q_18])), (q_3, .inl (k 0, 5, .inl (fun _ => 0))), (q_4, .inl (k 0, 5, .inl (fun _ => 0))), (q_5, .inr (5, [.int 0, .ref q_19, .ref q_20, .ref q_21, .ref q_22, .ref q_23, .ref q_24, .ref q_25, .ref q_26, .ref q_27, .ref q_28, .ref q_29, .ref q_30, .int x_16, .int x_17]))] (fun r u => (u.1 = 0 ∧ r = (-1) ∧ ((((x_0 < 0) ∨ (¬ x_0 < 0 ∧ ¬ x_0 ≤ 57))) ∨ (((¬ x_0 < 0 ∧ x_0 ≤ 57)) ∧ ((x_1 < 0) ∨ (¬ x_1 < 0 ∧ ¬ x_1 < 400))) ∨ (((¬ x_0 < 0 ∧ x_0 ≤ 57)) ∧ ((¬ x_1 < 0 ∧ x_1 < 400)) ∧ ((x_2 < 1) ∨ (¬ x_2 < 1 ∧ ¬ x_2 ≤ 20))) ∨ (((¬ x_0 < 0 ∧ x_0 ≤ 57)) ∧ ((¬ x_1 < 0 ∧ x_1 < 400)) ∧ ((¬ x_2 < 1 ∧ x_2 ≤ 20)) ∧ ((x_3 < 0) ∨ (¬ x_3 < 0 ∧ ¬ x_3 ≤ 1))))) ∨ (u.1 = 1 ∧ r = 0 ∧ ((((¬ x_0 < 0 ∧ x_0 ≤ 57)) ∧ ((¬ x_1 < 0 ∧ x_1 < 400)) ∧ ((¬ x_2 < 1 ∧ x_2 ≤ 20)) ∧ ((¬ x_3 < 0 ∧ x_3 ≤ 1)) ∧ ¬ x_3 = 0) ∨ (((¬ x_0 < 0 ∧ x_0 ≤ 57)) ∧ ((¬ x_1 < 0 ∧ x_1 < 400)) ∧ ((¬ x_2 < 1 ∧ x_2 ≤ 20)) ∧ ((¬ x_3 < 0 ∧ x_3 ≤ 1)) ∧ x_3 = 0)))) (fun u => []) := by
  refine zMi_of (own := RX11) (by decide +kernel) rfl (Nat.le_of_ble_eq_true rfl) ?_
  intro p e s m args below meth c A ls C0 hr hlk hin hP hD hS hA hK hN hl
  have hx := C0.1
  have hb := C0.2.1
  have hml := C0.2.2.1
  have hown := C0.2.2.2.1
  have hts := C0.2.2.2.2
  have hl : lv_has ls 5 [(0, .ref q_0), (1, .int x_0), (2, .int x_1), (3, .int x_2), (4, .int x_3)] := hl
  have hP : va_P D vwCl [(q_0, .inr (11, [.ref q_2, .ref q_6, .ref q_7, .ref q_1, .ref q_8, .int x_4])), (q_1, .inr (1, [.ref q_2, .ref q_9, .ref q_10, .ref q_11, .ref q_12, .ref q_13, .ref q_3, .ref q_4, .int x_5, .int x_6, .int x_7, .int x_8, .int x_9, .int x_10, .int x_11, .int x_12, .int x_13, .int x_14, .int x_15])), (q_2, .inr (3, [.ref q_14, .ref q_15, .ref q_5, .ref q_16, .ref q_17, .ref q_18])), (q_3, .inl (k 0, 5, .inl (fun _ => 0))), (q_4, .inl (k 0, 5, .inl (fun _ => 0))), (q_5, .inr (5, [.int 0, .ref q_19, .ref q_20, .ref q_21, .ref q_22, .ref q_23, .ref q_24, .ref q_25, .ref q_26, .ref q_27, .ref q_28, .ref q_29, .ref q_30, .int x_16, .int x_17]))] s.heap := hP
  refine lv_iload_n hx hb dX11_dips_0 rfl (lv_at hl 1 rfl) ?_
  refine lv_iconst (v := 0) hx hb dX11_dips_1 (by decide) ?_
  refine lv_bipush (v := 57) hx hb dX11_dips_2 (by decide) ?_
  refine z_bi0 (z_runS (As := [.int x_0, .int 0, .int 57]) (rest := []) C0 (c_X11_isOutside_1 l D k x_0 0 57 _) okS_X11_isOutside kM_X11_47 rfl (z_p0 hK hN) rfl hl.1 rfl (Nat.le_of_ble_eq_true rfl) dX11_dips_4 rfl) hP hS hA (fun r1 u1 H locs hw1 hP hS => ?_)
  obtain ⟨i1, a1⟩ := u1
  dsimp only at hw1
  rcases hw1 with ⟨rfl, rfl, c1⟩ | ⟨rfl, rfl, c1⟩
  · refine lv_if_ne (tgt := 37) hx hb dX11_dips_7 (by decide) (fun _ => ?_) (fun c2 => absurd c2 (by decide))
    refine lv_iconst (v := (-1)) hx hb dX11_dips_37 (by decide) ?_
    exact z_iret C0 hr hlk rfl hK hP hD hS (0, fun _ => 0) (Or.inl ⟨rfl, rfl, (Or.inl c1)⟩) [] rfl rfl rfl dX11_dips_38
  · refine lv_if_ne (tgt := 37) hx hb dX11_dips_7 (by decide) (fun c3 => absurd (by decide) c3) (fun _ => ?_)
    refine lv_iload_n hx hb dX11_dips_10 rfl (lv_at hl 2 rfl) ?_
    refine z_bi0 (z_runS (As := [.int x_1]) (rest := []) C0 (c_X11_isNoDay_1 l D k x_1 _) okS_X11_isNoDay kM_X11_72 rfl (z_p0 hK hN) rfl hl.1 rfl (Nat.le_of_ble_eq_true rfl) dX11_dips_11 rfl) hP hS hA (fun r4 u4 H locs hw4 hP hS => ?_)
    obtain ⟨i4, a4⟩ := u4
    dsimp only at hw4
    rcases hw4 with ⟨rfl, rfl, c4⟩ | ⟨rfl, rfl, c4⟩
    · refine lv_if_ne (tgt := 37) hx hb dX11_dips_14 (by decide) (fun _ => ?_) (fun c5 => absurd c5 (by decide))
      refine lv_iconst (v := (-1)) hx hb dX11_dips_37 (by decide) ?_
      exact z_iret C0 hr hlk rfl hK hP hD hS (0, fun _ => 0) (Or.inl ⟨rfl, rfl, (Or.inr (Or.inl (⟨c1, c4⟩)))⟩) [] rfl rfl rfl dX11_dips_38
    · refine lv_if_ne (tgt := 37) hx hb dX11_dips_14 (by decide) (fun c6 => absurd (by decide) c6) (fun _ => ?_)
      refine lv_iload_n hx hb dX11_dips_17 rfl (lv_at hl 3 rfl) ?_
      refine lv_iconst (v := 1) hx hb dX11_dips_18 (by decide) ?_
      refine lv_bipush (v := 20) hx hb dX11_dips_19 (by decide) ?_
      refine z_bi0 (z_runS (As := [.int x_2, .int 1, .int 20]) (rest := []) C0 (c_X11_isOutside_1 l D k x_2 1 20 _) okS_X11_isOutside kM_X11_47 rfl (z_p0 hK hN) rfl hl.1 rfl (Nat.le_of_ble_eq_true rfl) dX11_dips_21 rfl) hP hS hA (fun r7 u7 H locs hw7 hP hS => ?_)
      obtain ⟨i7, a7⟩ := u7
      dsimp only at hw7
      rcases hw7 with ⟨rfl, rfl, c7⟩ | ⟨rfl, rfl, c7⟩
      · refine lv_if_ne (tgt := 37) hx hb dX11_dips_24 (by decide) (fun _ => ?_) (fun c8 => absurd c8 (by decide))
        refine lv_iconst (v := (-1)) hx hb dX11_dips_37 (by decide) ?_
        exact z_iret C0 hr hlk rfl hK hP hD hS (0, fun _ => 0) (Or.inl ⟨rfl, rfl, (Or.inr (Or.inr (Or.inl (⟨c1, c4, c7⟩))))⟩) [] rfl rfl rfl dX11_dips_38
      · refine lv_if_ne (tgt := 37) hx hb dX11_dips_24 (by decide) (fun c9 => absurd (by decide) c9) (fun _ => ?_)
        refine lv_iload hx hb dX11_dips_27 (lv_at hl 4 rfl) ?_
        refine lv_iconst (v := 0) hx hb dX11_dips_29 (by decide) ?_
        refine lv_iconst (v := 1) hx hb dX11_dips_30 (by decide) ?_
        refine z_bi0 (z_runS (As := [.int x_3, .int 0, .int 1]) (rest := []) C0 (c_X11_isOutside_1 l D k x_3 0 1 _) okS_X11_isOutside kM_X11_47 rfl (z_p0 hK hN) rfl hl.1 rfl (Nat.le_of_ble_eq_true rfl) dX11_dips_31 rfl) hP hS hA (fun r10 u10 H locs hw10 hP hS => ?_)
        obtain ⟨i10, a10⟩ := u10
        dsimp only at hw10
        rcases hw10 with ⟨rfl, rfl, c10⟩ | ⟨rfl, rfl, c10⟩
        · refine lv_if_eq (tgt := 39) hx hb dX11_dips_34 (by decide) (fun c11 => absurd c11 (by decide)) (fun _ => ?_)
          refine lv_iconst (v := (-1)) hx hb dX11_dips_37 (by decide) ?_
          exact z_iret C0 hr hlk rfl hK hP hD hS (0, fun _ => 0) (Or.inl ⟨rfl, rfl, (Or.inr (Or.inr (Or.inr (⟨c1, c4, c7, c10⟩))))⟩) [] rfl rfl rfl dX11_dips_38
        · refine lv_if_eq (tgt := 39) hx hb dX11_dips_34 (by decide) (fun _ => ?_) (fun c12 => absurd (by decide) c12)
          refine lv_aload_n hx hb dX11_dips_39 rfl (lv_at hl 0 rfl) ?_
          refine va_get (D := D) (ci := 11) (v := .ref q_1) (C := RX11) (T := TX11) (N := 6) hx hb hts inX11 hown hK hP 0 rfl rfl 3 (by decide) (hts _ kF_X11_32) (fun _ h9 => h9) rfl dX11_dips_40 ?_
          refine lv_iload_n hx hb dX11_dips_43 rfl (lv_at hl 1 rfl) ?_
          refine lv_iload_n hx hb dX11_dips_44 rfl (lv_at hl 2 rfl) ?_
          refine z_bv (wr := [(q_0, .inr (11, [.ref q_2, .ref q_6, .ref q_7, .ref q_1, .ref q_8, .int x_4]))]) (z_runV (C := RX1) (As := [.int x_0, .int x_1]) (rest := []) C0 (c_X1_countWeek_1 l D k q_1 q_2 q_3 q_4 q_5 q_9 q_10 q_11 q_12 q_13 q_14 q_15 q_16 q_17 q_18 q_19 q_20 q_21 q_22 q_23 q_24 q_25 q_26 q_27 q_28 q_29 q_30 x_0 x_1 x_5 x_6 x_7 x_8 x_9 x_10 x_11 x_12 x_13 x_14 x_15 x_16 x_17 (fun _ => 0) (fun _ => 0) _) okV_X1_countWeek kM_X11_340 rfl (z_pV (q0 := 1) hK hN hP hD [1, 2, 3, 4, 5] rfl rfl rfl rfl rfl) rfl hl.1 rfl (Nat.le_of_ble_eq_true rfl) dX11_dips_45 rfl) hP hD hS hA [1, 2, 3, 4, 5] [0] rfl rfl rfl rfl (fun u13 H locs hw13 hP hD hS => ?_)
          obtain ⟨i13, a13⟩ := u13
          dsimp only at hw13
          obtain rfl := hw13
          have hP : va_P D vwCl [(q_0, .inr (11, [.ref q_2, .ref q_6, .ref q_7, .ref q_1, .ref q_8, .int x_4])), (q_1, .inr (1, [.ref q_2, .ref q_9, .ref q_10, .ref q_11, .ref q_12, .ref q_13, .ref q_3, .ref q_4, .int x_5, .int x_6, .int x_7, .int x_8, .int x_9, .int x_10, .int x_11, .int x_12, .int x_13, .int x_14, .int x_15])), (q_2, .inr (3, [.ref q_14, .ref q_15, .ref q_5, .ref q_16, .ref q_17, .ref q_18])), (q_3, .inl (k 0, 5, .inl (fun _ => 0))), (q_4, .inl (k 0, 5, .inl (fun _ => 0))), (q_5, .inr (5, [.int 0, .ref q_19, .ref q_20, .ref q_21, .ref q_22, .ref q_23, .ref q_24, .ref q_25, .ref q_26, .ref q_27, .ref q_28, .ref q_29, .ref q_30, .int x_16, .int x_17]))] H := hP
          have hD : va_D A [(q_0, .inr (11, [.ref q_2, .ref q_6, .ref q_7, .ref q_1, .ref q_8, .int x_4])), (q_1, .inr (1, [.ref q_2, .ref q_9, .ref q_10, .ref q_11, .ref q_12, .ref q_13, .ref q_3, .ref q_4, .int x_5, .int x_6, .int x_7, .int x_8, .int x_9, .int x_10, .int x_11, .int x_12, .int x_13, .int x_14, .int x_15])), (q_2, .inr (3, [.ref q_14, .ref q_15, .ref q_5, .ref q_16, .ref q_17, .ref q_18])), (q_3, .inl (k 0, 5, .inl (fun _ => 0))), (q_4, .inl (k 0, 5, .inl (fun _ => 0))), (q_5, .inr (5, [.int 0, .ref q_19, .ref q_20, .ref q_21, .ref q_22, .ref q_23, .ref q_24, .ref q_25, .ref q_26, .ref q_27, .ref q_28, .ref q_29, .ref q_30, .int x_16, .int x_17]))] := hD
          refine lv_iload hx hb dX11_dips_48 (lv_at hl 4 rfl) ?_
          refine lv_if_ne (tgt := 64) hx hb dX11_dips_50 (by decide) (fun c14 => ?_) (fun c14 => ?_)
          · refine lv_aload_n hx hb dX11_dips_64 rfl (lv_at hl 0 rfl) ?_
            refine va_get (D := D) (ci := 11) (v := .ref q_1) (C := RX11) (T := TX11) (N := 6) hx hb hts inX11 hown hK hP 0 rfl rfl 3 (by decide) (hts _ kF_X11_32) (fun _ h9 => h9) rfl dX11_dips_65 ?_
            refine z_bi (wr := [(q_0, .inr (11, [.ref q_2, .ref q_6, .ref q_7, .ref q_1, .ref q_8, .int x_4])), (q_2, .inr (3, [.ref q_14, .ref q_15, .ref q_5, .ref q_16, .ref q_17, .ref q_18])), (q_4, .inl (k 0, 5, .inl (fun _ => 0))), (q_5, .inr (5, [.int 0, .ref q_19, .ref q_20, .ref q_21, .ref q_22, .ref q_23, .ref q_24, .ref q_25, .ref q_26, .ref q_27, .ref q_28, .ref q_29, .ref q_30, .int x_16, .int x_17]))]) (z_runV (C := RX1) (As := []) (rest := []) C0 (c_X1_schoolsLookedAt_1 l D k q_1 q_3 q_2 q_9 q_10 q_11 q_12 q_13 q_4 x_5 x_6 x_7 x_8 x_9 x_10 x_11 x_12 x_13 x_14 x_15 _) okV_X1_schoolsLookedAt kM_X11_346 rfl (z_pV (q0 := 1) hK hN hP hD [1, 3] rfl rfl rfl rfl rfl) rfl hl.1 rfl (Nat.le_of_ble_eq_true rfl) dX11_dips_68 rfl) hP hD hS hA [1, 3] [0, 2, 4, 5] rfl rfl rfl rfl (fun r15 u15 H locs hw15 hP hD hS => ?_)
            obtain ⟨i15, a15⟩ := u15
            dsimp only at hw15
            obtain ⟨rfl, rfl⟩ := hw15
            have hP : va_P D vwCl [(q_0, .inr (11, [.ref q_2, .ref q_6, .ref q_7, .ref q_1, .ref q_8, .int x_4])), (q_2, .inr (3, [.ref q_14, .ref q_15, .ref q_5, .ref q_16, .ref q_17, .ref q_18])), (q_4, .inl (k 0, 5, .inl (fun _ => 0))), (q_5, .inr (5, [.int 0, .ref q_19, .ref q_20, .ref q_21, .ref q_22, .ref q_23, .ref q_24, .ref q_25, .ref q_26, .ref q_27, .ref q_28, .ref q_29, .ref q_30, .int x_16, .int x_17])), (q_1, .inr (1, [.ref q_2, .ref q_9, .ref q_10, .ref q_11, .ref q_12, .ref q_13, .ref q_3, .ref q_4, .int x_5, .int x_6, .int x_7, .int x_8, .int x_9, .int x_10, .int x_11, .int x_12, .int x_13, .int x_14, .int x_15])), (q_3, .inl (k 0, 5, .inl (fun _ => 0)))] H := hP
            have hD : va_D A [(q_0, .inr (11, [.ref q_2, .ref q_6, .ref q_7, .ref q_1, .ref q_8, .int x_4])), (q_2, .inr (3, [.ref q_14, .ref q_15, .ref q_5, .ref q_16, .ref q_17, .ref q_18])), (q_4, .inl (k 0, 5, .inl (fun _ => 0))), (q_5, .inr (5, [.int 0, .ref q_19, .ref q_20, .ref q_21, .ref q_22, .ref q_23, .ref q_24, .ref q_25, .ref q_26, .ref q_27, .ref q_28, .ref q_29, .ref q_30, .int x_16, .int x_17])), (q_1, .inr (1, [.ref q_2, .ref q_9, .ref q_10, .ref q_11, .ref q_12, .ref q_13, .ref q_3, .ref q_4, .int x_5, .int x_6, .int x_7, .int x_8, .int x_9, .int x_10, .int x_11, .int x_12, .int x_13, .int x_14, .int x_15])), (q_3, .inl (k 0, 5, .inl (fun _ => 0)))] := hD
            exact z_iret C0 hr hlk rfl hK hP hD hS (1, fun _ => 0) (Or.inr (⟨rfl, rfl, (Or.inl (⟨c1, c4, c7, c10, c14⟩))⟩)) [] rfl rfl rfl dX11_dips_71
          · refine lv_aload_n hx hb dX11_dips_53 rfl (lv_at hl 0 rfl) ?_
            refine va_get (D := D) (ci := 11) (v := .ref q_1) (C := RX11) (T := TX11) (N := 6) hx hb hts inX11 hown hK hP 0 rfl rfl 3 (by decide) (hts _ kF_X11_32) (fun _ h9 => h9) rfl dX11_dips_54 ?_
            refine lv_iload_n hx hb dX11_dips_57 rfl (lv_at hl 3 rfl) ?_
            refine z_bi (wr := [(q_0, .inr (11, [.ref q_2, .ref q_6, .ref q_7, .ref q_1, .ref q_8, .int x_4])), (q_2, .inr (3, [.ref q_14, .ref q_15, .ref q_5, .ref q_16, .ref q_17, .ref q_18])), (q_5, .inr (5, [.int 0, .ref q_19, .ref q_20, .ref q_21, .ref q_22, .ref q_23, .ref q_24, .ref q_25, .ref q_26, .ref q_27, .ref q_28, .ref q_29, .ref q_30, .int x_16, .int x_17]))]) (z_runV (C := RX1) (As := [.int x_2]) (rest := []) C0 (c_X1_dippingSchools_1 l D k q_1 q_3 q_4 q_2 q_9 q_10 q_11 q_12 q_13 x_2 x_5 x_6 x_7 x_8 x_9 x_10 x_11 x_12 x_13 x_14 x_15 _) okV_X1_dippingSchools kM_X11_343 rfl (z_pV (q0 := 1) hK hN hP hD [1, 3, 4] rfl rfl rfl rfl rfl) rfl hl.1 rfl (Nat.le_of_ble_eq_true rfl) dX11_dips_58 rfl) hP hD hS hA [1, 3, 4] [0, 2, 5] rfl rfl rfl rfl (fun r16 u16 H locs hw16 hP hD hS => ?_)
            obtain ⟨i16, a16⟩ := u16
            dsimp only at hw16
            obtain ⟨rfl, rfl⟩ := hw16
            have hP : va_P D vwCl [(q_0, .inr (11, [.ref q_2, .ref q_6, .ref q_7, .ref q_1, .ref q_8, .int x_4])), (q_2, .inr (3, [.ref q_14, .ref q_15, .ref q_5, .ref q_16, .ref q_17, .ref q_18])), (q_5, .inr (5, [.int 0, .ref q_19, .ref q_20, .ref q_21, .ref q_22, .ref q_23, .ref q_24, .ref q_25, .ref q_26, .ref q_27, .ref q_28, .ref q_29, .ref q_30, .int x_16, .int x_17])), (q_1, .inr (1, [.ref q_2, .ref q_9, .ref q_10, .ref q_11, .ref q_12, .ref q_13, .ref q_3, .ref q_4, .int x_5, .int x_6, .int x_7, .int x_8, .int x_9, .int x_10, .int x_11, .int x_12, .int x_13, .int x_14, .int x_15])), (q_3, .inl (k 0, 5, .inl (fun _ => 0))), (q_4, .inl (k 0, 5, .inl (fun _ => 0)))] H := hP
            have hD : va_D A [(q_0, .inr (11, [.ref q_2, .ref q_6, .ref q_7, .ref q_1, .ref q_8, .int x_4])), (q_2, .inr (3, [.ref q_14, .ref q_15, .ref q_5, .ref q_16, .ref q_17, .ref q_18])), (q_5, .inr (5, [.int 0, .ref q_19, .ref q_20, .ref q_21, .ref q_22, .ref q_23, .ref q_24, .ref q_25, .ref q_26, .ref q_27, .ref q_28, .ref q_29, .ref q_30, .int x_16, .int x_17])), (q_1, .inr (1, [.ref q_2, .ref q_9, .ref q_10, .ref q_11, .ref q_12, .ref q_13, .ref q_3, .ref q_4, .int x_5, .int x_6, .int x_7, .int x_8, .int x_9, .int x_10, .int x_11, .int x_12, .int x_13, .int x_14, .int x_15])), (q_3, .inl (k 0, 5, .inl (fun _ => 0))), (q_4, .inl (k 0, 5, .inl (fun _ => 0)))] := hD
            refine lv_goto (tgt := 71) hx hb dX11_dips_61 (by decide) ?_
            exact z_iret C0 hr hlk rfl hK hP hD hS (1, fun _ => 0) (Or.inr (⟨rfl, rfl, (Or.inr (⟨c1, c4, c7, c10, c14⟩))⟩)) [] rfl rfl rfl dX11_dips_71

set_option maxHeartbeats 4000000 in
set_option maxRecDepth 100000 in
theorem c_X12_dips_1 (l : Launch) (D : va_G) (k : Nat → ClassId) (q_0 : Nat) (q_1 : Nat) (q_2 : Nat) (q_3 : Nat) (q_4 : Nat) (q_5 : Nat) (q_6 : Nat) (q_7 : Nat) (q_8 : Nat) (q_9 : Nat) (q_10 : Nat) (q_11 : Nat) (q_12 : Nat) (q_13 : Nat) (q_14 : Nat) (q_15 : Nat) (q_16 : Nat) (q_17 : Nat) (q_18 : Nat) (q_19 : Nat) (q_20 : Nat) (q_21 : Nat) (q_22 : Nat) (q_23 : Nat) (q_24 : Nat) (q_25 : Nat) (x_0 : Int32) (x_1 : Int32) (x_2 : Int32) (x_3 : Int32) (x_4 : Int32) (x_5 : Int32) (x_6 : Int32) (x_7 : Int32) (x_8 : Int32) (x_9 : Int32) (x_10 : Int32) (g_11 : Int64) (x_12 : Int32) (x_13 : Int32) (x_14 : Int32) (x_15 : Int32) (x_16 : Int32) (x_17 : Int32) (x_18 : Int32) (x_19 : Int32) (g_20 : Int64) (g_21 : Int64) (x_22 : Int32) (x_23 : Int32) (x_24 : Int32) (x_25 : Int32) (x_26 : Int32) (x_27 : Int32) (x_28 : Int32) (x_29 : Int32) (x_30 : Int32) (x_31 : Int32) (x_32 : Int32) (x_33 : Int32) (x_34 : Int32) : zMi l yX12_dips cX12_dips 17 (some .int) ({ frames := 2, cells := 0, slots := 0, locals := 49 }) D k [.ref q_0, .int x_0, .int x_1, .int x_2, .int x_3] [(q_0, .inr (12, [.int x_4, .int x_5, .ref q_1, .ref q_2, .ref q_3, .int x_6, .ref q_4, .ref q_5, .ref q_6, .ref q_7, .ref q_8, .int x_7, .int x_8, .int x_9, .int x_10, .long g_11, .int x_12, .int x_13, .int x_14, .ref q_9, .int x_15, .ref q_10, .ref q_11, .int x_16, .ref q_12, .ref q_13, .int x_17, .int x_18, .ref q_14, .ref q_15, .ref q_16, .ref q_17, .int x_19, .long g_20, .long g_21, .int x_22, .int x_23, .int x_24, .int x_25, .ref q_18, .ref q_19, .int x_26, .int x_27, .int x_28, .int x_29, .ref q_20, .ref q_21, .int x_30, .int x_31, .ref q_22, .ref q_23, .ref q_24, .ref q_25, .int x_32, .int x_33, .int x_34])), (q_1, .inl (k 0, 27101, .inl (fun _ => 0)))] (fun r u => (u.1 = 0 ∧ r = (-1) ∧ (((((Int32.toInt64 x_0) < 0) ∨ (¬ (Int32.toInt64 x_0) < 0 ∧ (57 : Int64) < (Int32.toInt64 x_0)))) ∨ (((¬ (Int32.toInt64 x_0) < 0 ∧ ¬ (57 : Int64) < (Int32.toInt64 x_0))) ∧ (((Int32.toInt64 x_1) < 0) ∨ (¬ (Int32.toInt64 x_1) < 0 ∧ (399 : Int64) < (Int32.toInt64 x_1)))) ∨ (((¬ (Int32.toInt64 x_0) < 0 ∧ ¬ (57 : Int64) < (Int32.toInt64 x_0))) ∧ ((¬ (Int32.toInt64 x_1) < 0 ∧ ¬ (399 : Int64) < (Int32.toInt64 x_1))) ∧ (((Int32.toInt64 x_2) < 1) ∨ (¬ (Int32.toInt64 x_2) < 1 ∧ (20 : Int64) < (Int32.toInt64 x_2)))) ∨ (((¬ (Int32.toInt64 x_0) < 0 ∧ ¬ (57 : Int64) < (Int32.toInt64 x_0))) ∧ ((¬ (Int32.toInt64 x_1) < 0 ∧ ¬ (399 : Int64) < (Int32.toInt64 x_1))) ∧ ((¬ (Int32.toInt64 x_2) < 1 ∧ ¬ (20 : Int64) < (Int32.toInt64 x_2))) ∧ (((Int32.toInt64 x_3) < 0) ∨ (¬ (Int32.toInt64 x_3) < 0 ∧ (1 : Int64) < (Int32.toInt64 x_3)))))) ∨ (u.1 = 1 ∧ r = 0 ∧ ((((¬ (Int32.toInt64 x_0) < 0 ∧ ¬ (57 : Int64) < (Int32.toInt64 x_0))) ∧ ((¬ (Int32.toInt64 x_1) < 0 ∧ ¬ (399 : Int64) < (Int32.toInt64 x_1))) ∧ ((¬ (Int32.toInt64 x_2) < 1 ∧ ¬ (20 : Int64) < (Int32.toInt64 x_2))) ∧ ((¬ (Int32.toInt64 x_3) < 0 ∧ ¬ (1 : Int64) < (Int32.toInt64 x_3))) ∧ ¬ x_3 = 1) ∨ (((¬ (Int32.toInt64 x_0) < 0 ∧ ¬ (57 : Int64) < (Int32.toInt64 x_0))) ∧ ((¬ (Int32.toInt64 x_1) < 0 ∧ ¬ (399 : Int64) < (Int32.toInt64 x_1))) ∧ ((¬ (Int32.toInt64 x_2) < 1 ∧ ¬ (20 : Int64) < (Int32.toInt64 x_2))) ∧ ((¬ (Int32.toInt64 x_3) < 0 ∧ ¬ (1 : Int64) < (Int32.toInt64 x_3))) ∧ x_3 = 1)))) (fun u => []) := by
  refine zMi_of (own := RX12) (by decide +kernel) rfl (Nat.le_of_ble_eq_true rfl) ?_
  intro p e s m args below meth c A ls C0 hr hlk hin hP hD hS hA hK hN hl
  have hx := C0.1
  have hb := C0.2.1
  have hml := C0.2.2.1
  have hown := C0.2.2.2.1
  have hts := C0.2.2.2.2
  have hl : lv_has ls 17 [(0, .ref q_0), (1, .int x_0), (2, .int x_1), (3, .int x_2), (4, .int x_3)] := hl
  have hP : va_P D vwCl [(q_0, .inr (12, [.int x_4, .int x_5, .ref q_1, .ref q_2, .ref q_3, .int x_6, .ref q_4, .ref q_5, .ref q_6, .ref q_7, .ref q_8, .int x_7, .int x_8, .int x_9, .int x_10, .long g_11, .int x_12, .int x_13, .int x_14, .ref q_9, .int x_15, .ref q_10, .ref q_11, .int x_16, .ref q_12, .ref q_13, .int x_17, .int x_18, .ref q_14, .ref q_15, .ref q_16, .ref q_17, .int x_19, .long g_20, .long g_21, .int x_22, .int x_23, .int x_24, .int x_25, .ref q_18, .ref q_19, .int x_26, .int x_27, .int x_28, .int x_29, .ref q_20, .ref q_21, .int x_30, .int x_31, .ref q_22, .ref q_23, .ref q_24, .ref q_25, .int x_32, .int x_33, .int x_34])), (q_1, .inl (k 0, 27101, .inl (fun _ => 0)))] s.heap := hP
  refine lv_aload_n hx hb dX12_dips_0 rfl (lv_at hl 0 rfl) ?_
  refine lv_iconst (v := 0) hx hb dX12_dips_1 (by decide) ?_
  refine va_put (D := D) (ci := 12) (v := .int 0) (ty := .int) (C := RX12) (T := TX12) (N := 56) hx hb hts inX12 tyX12 tyX12_ok nmX12 hown hK hP hD hS 0 rfl rfl 0 (by decide) (hts _ kF_X12_92) (fun _ h9 => h9) rfl (by decide +kernel) rfl rfl (Nat.le_of_ble_eq_true rfl) dX12_dips_2 (fun H locs hP hD hS => ?_)
  have hP : va_P D vwCl [(q_0, .inr (12, [.int 0, .int x_5, .ref q_1, .ref q_2, .ref q_3, .int x_6, .ref q_4, .ref q_5, .ref q_6, .ref q_7, .ref q_8, .int x_7, .int x_8, .int x_9, .int x_10, .long g_11, .int x_12, .int x_13, .int x_14, .ref q_9, .int x_15, .ref q_10, .ref q_11, .int x_16, .ref q_12, .ref q_13, .int x_17, .int x_18, .ref q_14, .ref q_15, .ref q_16, .ref q_17, .int x_19, .long g_20, .long g_21, .int x_22, .int x_23, .int x_24, .int x_25, .ref q_18, .ref q_19, .int x_26, .int x_27, .int x_28, .int x_29, .ref q_20, .ref q_21, .int x_30, .int x_31, .ref q_22, .ref q_23, .ref q_24, .ref q_25, .int x_32, .int x_33, .int x_34])), (q_1, .inl (k 0, 27101, .inl (fun _ => 0)))] H := hP
  have hD : va_D A [(q_0, .inr (12, [.int 0, .int x_5, .ref q_1, .ref q_2, .ref q_3, .int x_6, .ref q_4, .ref q_5, .ref q_6, .ref q_7, .ref q_8, .int x_7, .int x_8, .int x_9, .int x_10, .long g_11, .int x_12, .int x_13, .int x_14, .ref q_9, .int x_15, .ref q_10, .ref q_11, .int x_16, .ref q_12, .ref q_13, .int x_17, .int x_18, .ref q_14, .ref q_15, .ref q_16, .ref q_17, .int x_19, .long g_20, .long g_21, .int x_22, .int x_23, .int x_24, .int x_25, .ref q_18, .ref q_19, .int x_26, .int x_27, .int x_28, .int x_29, .ref q_20, .ref q_21, .int x_30, .int x_31, .ref q_22, .ref q_23, .ref q_24, .ref q_25, .int x_32, .int x_33, .int x_34])), (q_1, .inl (k 0, 27101, .inl (fun _ => 0)))] := hD
  refine lv_iload_n hx hb dX12_dips_5 rfl (lv_at hl 1 rfl) ?_
  refine lv_i2l (v := (Int32.toInt64 x_0)) hx hb dX12_dips_6 rfl ?_
  refine lv_lconst (v := 0) hx hb dX12_dips_7 (by decide) ?_
  refine lv_ldc2 hx hb hown (hts _ kL_X12_543) dX12_dips_8 ?_
  refine z_bi0 (z_runS (As := [.long (Int32.toInt64 x_0), .long 0, .long 57]) (rest := []) C0 (c_X12_in_1 l D k (Int32.toInt64 x_0) 0 57 _) okS_X12_in kM_X12_100 rfl (z_p0 hK hN) rfl hl.1 rfl (Nat.le_of_ble_eq_true rfl) dX12_dips_11 rfl) hP hS hA (fun r1 u1 H locs hw1 hP hS => ?_)
  obtain ⟨i1, a1⟩ := u1
  dsimp only at hw1
  rcases hw1 with ⟨rfl, rfl, c1⟩ | ⟨rfl, rfl, c1⟩
  · refine lv_if_eq (tgt := 47) hx hb dX12_dips_14 (by decide) (fun _ => ?_) (fun c2 => absurd (by decide) c2)
    refine lv_iconst (v := (-1)) hx hb dX12_dips_47 (by decide) ?_
    exact z_iret C0 hr hlk rfl hK hP hD hS (0, fun _ => 0) (Or.inl ⟨rfl, rfl, (Or.inl c1)⟩) [] rfl rfl rfl dX12_dips_48
  · refine lv_if_eq (tgt := 47) hx hb dX12_dips_14 (by decide) (fun c3 => absurd c3 (by decide)) (fun _ => ?_)
    refine lv_iload_n hx hb dX12_dips_17 rfl (lv_at hl 2 rfl) ?_
    refine z_bi0 (z_runS (As := [.int x_1]) (rest := []) C0 (c_X12_isDay_1 l D k x_1 _) okS_X12_isDay kM_X12_127 rfl (z_p0 hK hN) rfl hl.1 rfl (Nat.le_of_ble_eq_true rfl) dX12_dips_18 rfl) hP hS hA (fun r4 u4 H locs hw4 hP hS => ?_)
    obtain ⟨i4, a4⟩ := u4
    dsimp only at hw4
    rcases hw4 with ⟨rfl, rfl, c4⟩ | ⟨rfl, rfl, c4⟩
    · refine lv_if_eq (tgt := 47) hx hb dX12_dips_21 (by decide) (fun _ => ?_) (fun c5 => absurd (by decide) c5)
      refine lv_iconst (v := (-1)) hx hb dX12_dips_47 (by decide) ?_
      exact z_iret C0 hr hlk rfl hK hP hD hS (0, fun _ => 0) (Or.inl ⟨rfl, rfl, (Or.inr (Or.inl (⟨c1, c4⟩)))⟩) [] rfl rfl rfl dX12_dips_48
    · refine lv_if_eq (tgt := 47) hx hb dX12_dips_21 (by decide) (fun c6 => absurd c6 (by decide)) (fun _ => ?_)
      refine lv_iload_n hx hb dX12_dips_24 rfl (lv_at hl 3 rfl) ?_
      refine lv_i2l (v := (Int32.toInt64 x_2)) hx hb dX12_dips_25 rfl ?_
      refine lv_lconst (v := 1) hx hb dX12_dips_26 (by decide) ?_
      refine lv_ldc2 hx hb hown (hts _ kL_X12_251) dX12_dips_27 ?_
      refine z_bi0 (z_runS (As := [.long (Int32.toInt64 x_2), .long 1, .long 20]) (rest := []) C0 (c_X12_in_1 l D k (Int32.toInt64 x_2) 1 20 _) okS_X12_in kM_X12_100 rfl (z_p0 hK hN) rfl hl.1 rfl (Nat.le_of_ble_eq_true rfl) dX12_dips_30 rfl) hP hS hA (fun r7 u7 H locs hw7 hP hS => ?_)
      obtain ⟨i7, a7⟩ := u7
      dsimp only at hw7
      rcases hw7 with ⟨rfl, rfl, c7⟩ | ⟨rfl, rfl, c7⟩
      · refine lv_if_eq (tgt := 47) hx hb dX12_dips_33 (by decide) (fun _ => ?_) (fun c8 => absurd (by decide) c8)
        refine lv_iconst (v := (-1)) hx hb dX12_dips_47 (by decide) ?_
        exact z_iret C0 hr hlk rfl hK hP hD hS (0, fun _ => 0) (Or.inl ⟨rfl, rfl, (Or.inr (Or.inr (Or.inl (⟨c1, c4, c7⟩))))⟩) [] rfl rfl rfl dX12_dips_48
      · refine lv_if_eq (tgt := 47) hx hb dX12_dips_33 (by decide) (fun c9 => absurd c9 (by decide)) (fun _ => ?_)
        refine lv_iload hx hb dX12_dips_36 (lv_at hl 4 rfl) ?_
        refine lv_i2l (v := (Int32.toInt64 x_3)) hx hb dX12_dips_38 rfl ?_
        refine lv_lconst (v := 0) hx hb dX12_dips_39 (by decide) ?_
        refine lv_lconst (v := 1) hx hb dX12_dips_40 (by decide) ?_
        refine z_bi0 (z_runS (As := [.long (Int32.toInt64 x_3), .long 0, .long 1]) (rest := []) C0 (c_X12_in_1 l D k (Int32.toInt64 x_3) 0 1 _) okS_X12_in kM_X12_100 rfl (z_p0 hK hN) rfl hl.1 rfl (Nat.le_of_ble_eq_true rfl) dX12_dips_41 rfl) hP hS hA (fun r10 u10 H locs hw10 hP hS => ?_)
        obtain ⟨i10, a10⟩ := u10
        dsimp only at hw10
        rcases hw10 with ⟨rfl, rfl, c10⟩ | ⟨rfl, rfl, c10⟩
        · refine lv_if_ne (tgt := 49) hx hb dX12_dips_44 (by decide) (fun c11 => absurd (by decide) c11) (fun _ => ?_)
          refine lv_iconst (v := (-1)) hx hb dX12_dips_47 (by decide) ?_
          exact z_iret C0 hr hlk rfl hK hP hD hS (0, fun _ => 0) (Or.inl ⟨rfl, rfl, (Or.inr (Or.inr (Or.inr (⟨c1, c4, c7, c10⟩))))⟩) [] rfl rfl rfl dX12_dips_48
        · refine lv_if_ne (tgt := 49) hx hb dX12_dips_44 (by decide) (fun _ => ?_) (fun c12 => absurd c12 (by decide))
          refine lv_aload_n hx hb dX12_dips_49 rfl (lv_at hl 0 rfl) ?_
          refine lv_iload_n hx hb dX12_dips_50 rfl (lv_at hl 2 rfl) ?_
          refine z_bv (wr := []) (z_runV (C := RX12) (As := [.int x_1]) (rest := []) C0 (c_X12_knowBy_1 l D k q_0 q_1 q_2 q_3 q_4 q_5 q_6 q_7 q_8 q_9 q_10 q_11 q_12 q_13 q_14 q_15 q_16 q_17 q_18 q_19 q_20 q_21 q_22 q_23 q_24 q_25 x_1 0 x_5 x_6 x_7 x_8 x_9 x_10 g_11 x_12 x_13 x_14 x_15 x_16 x_17 x_18 x_19 g_20 g_21 x_22 x_23 x_24 x_25 x_26 x_27 x_28 x_29 x_30 x_31 x_32 x_33 x_34 _) okV_X12_knowBy kM_X12_186 rfl (z_pV (q0 := 0) hK hN hP hD [0, 1] rfl rfl rfl rfl rfl) rfl hl.1 rfl (Nat.le_of_ble_eq_true rfl) dX12_dips_51 rfl) hP hD hS hA [0, 1] [] rfl rfl rfl rfl (fun u13 H locs hw13 hP hD hS => ?_)
          obtain ⟨i13, a13⟩ := u13
          dsimp only at hw13
          obtain rfl := hw13
          have hP : va_P D vwCl [(q_0, .inr (12, [.int 0, .int x_5, .ref q_1, .ref q_2, .ref q_3, .int x_1, .ref q_4, .ref q_5, .ref q_6, .ref q_7, .ref q_8, .int x_7, .int x_8, .int x_9, .int x_10, .long g_11, .int x_12, .int x_13, .int x_14, .ref q_9, .int x_15, .ref q_10, .ref q_11, .int x_16, .ref q_12, .ref q_13, .int x_17, .int x_18, .ref q_14, .ref q_15, .ref q_16, .ref q_17, .int x_19, .long g_20, .long g_21, .int x_22, .int x_23, .int x_24, .int x_25, .ref q_18, .ref q_19, .int x_26, .int x_27, .int x_28, .int x_29, .ref q_20, .ref q_21, .int x_30, .int x_31, .ref q_22, .ref q_23, .ref q_24, .ref q_25, .int x_32, .int x_33, .int x_34])), (q_1, .inl (k 0, 27101, .inl (fun _ => 0)))] H := hP
          have hD : va_D A [(q_0, .inr (12, [.int 0, .int x_5, .ref q_1, .ref q_2, .ref q_3, .int x_1, .ref q_4, .ref q_5, .ref q_6, .ref q_7, .ref q_8, .int x_7, .int x_8, .int x_9, .int x_10, .long g_11, .int x_12, .int x_13, .int x_14, .ref q_9, .int x_15, .ref q_10, .ref q_11, .int x_16, .ref q_12, .ref q_13, .int x_17, .int x_18, .ref q_14, .ref q_15, .ref q_16, .ref q_17, .int x_19, .long g_20, .long g_21, .int x_22, .int x_23, .int x_24, .int x_25, .ref q_18, .ref q_19, .int x_26, .int x_27, .int x_28, .int x_29, .ref q_20, .ref q_21, .int x_30, .int x_31, .ref q_22, .ref q_23, .ref q_24, .ref q_25, .int x_32, .int x_33, .int x_34])), (q_1, .inl (k 0, 27101, .inl (fun _ => 0)))] := hD
          refine lv_iconst (v := 0) hx hb dX12_dips_54 (by decide) ?_
          refine lv_istore (lv' := [(5, .int 0), (0, .ref q_0), (1, .int x_0), (2, .int x_1), (3, .int x_2), (4, .int x_3)]) hx hb dX12_dips_55 hl (by decide) rfl (fun ls hl => ?_)
          refine lv_lconst (v := 0) hx hb dX12_dips_57 (by decide) ?_
          refine lv_lstore (lv' := [(6, .long 0), (5, .int 0), (0, .ref q_0), (1, .int x_0), (2, .int x_1), (3, .int x_2), (4, .int x_3)]) hx hb dX12_dips_58 hl (by decide) rfl (fun ls hl => ?_)
          refine lv_lconst (v := 0) hx hb dX12_dips_60 (by decide) ?_
          refine lv_lstore (lv' := [(8, .long 0), (6, .long 0), (5, .int 0), (0, .ref q_0), (1, .int x_0), (2, .int x_1), (3, .int x_2), (4, .int x_3)]) hx hb dX12_dips_61 hl (by decide) rfl (fun ls hl => ?_)
          refine lv_iconst (v := 0) hx hb dX12_dips_63 (by decide) ?_
          refine lv_istore (lv' := [(10, .int 0), (8, .long 0), (6, .long 0), (5, .int 0), (0, .ref q_0), (1, .int x_0), (2, .int x_1), (3, .int x_2), (4, .int x_3)]) hx hb dX12_dips_64 hl (by decide) rfl (fun ls hl => ?_)
          refine lv_iload hx hb dX12_dips_66 (lv_at hl 0 rfl) ?_
          refine lv_aload_n hx hb dX12_dips_68 rfl (lv_at hl 4 rfl) ?_
          refine va_get (D := D) (ci := 12) (v := .ref q_1) (C := RX12) (T := TX12) (N := 56) hx hb hts inX12 hown hK hP 0 rfl rfl 2 (by decide) (hts _ kF_X12_7) (fun _ h9 => h9) rfl dX12_dips_69 ?_
          refine lv_iconst (v := 1) hx hb dX12_dips_72 (by decide) ?_
          refine va_iald hx hb hK hP 1 0 rfl rfl (by unfold vp_in; decide) dX12_dips_73 ?_
          refine lv_toc (v := 0) rfl ?_
          refine lv_icmp_ge (tgt := 160) hx hb dX12_dips_74 (by decide) (fun _ => ?_) (fun c14 => absurd (by decide) c14)
          refine lv_iload hx hb dX12_dips_160 (lv_at hl 8 rfl) ?_
          refine lv_iconst (v := 1) hx hb dX12_dips_162 (by decide) ?_
          refine lv_icmp_ne (tgt := 169) hx hb dX12_dips_163 (by decide) (fun c15 => ?_) (fun c15 => ?_)
          · refine lv_iconst (v := 0) hx hb dX12_dips_169 (by decide) ?_
            refine lv_istore (lv' := [(10, .int 0), (8, .long 0), (6, .long 0), (5, .int 0), (0, .ref q_0), (1, .int x_0), (2, .int x_1), (3, .int x_2), (4, .int x_3)]) hx hb dX12_dips_170 hl (by decide) rfl (fun ls hl => ?_)
            refine lv_iconst (v := 0) hx hb dX12_dips_172 (by decide) ?_
            refine lv_istore (lv' := [(11, .int 0), (10, .int 0), (8, .long 0), (6, .long 0), (5, .int 0), (0, .ref q_0), (1, .int x_0), (2, .int x_1), (3, .int x_2), (4, .int x_3)]) hx hb dX12_dips_173 hl (by decide) rfl (fun ls hl => ?_)
            refine lv_iload hx hb dX12_dips_175 (lv_at hl 0 rfl) ?_
            refine lv_aload_n hx hb dX12_dips_177 rfl (lv_at hl 5 rfl) ?_
            refine va_get (D := D) (ci := 12) (v := .ref q_1) (C := RX12) (T := TX12) (N := 56) hx hb hts inX12 hown hK hP 0 rfl rfl 2 (by decide) (hts _ kF_X12_7) (fun _ h9 => h9) rfl dX12_dips_178 ?_
            refine lv_iconst (v := 1) hx hb dX12_dips_181 (by decide) ?_
            refine va_iald hx hb hK hP 1 0 rfl rfl (by unfold vp_in; decide) dX12_dips_182 ?_
            refine lv_toc (v := 0) rfl ?_
            refine lv_icmp_ge (tgt := 301) hx hb dX12_dips_183 (by decide) (fun _ => ?_) (fun c16 => absurd (by decide) c16)
            refine lv_iload hx hb dX12_dips_301 (lv_at hl 1 rfl) ?_
            exact z_iret C0 hr hlk rfl hK hP hD hS (1, fun _ => 0) (Or.inr (⟨rfl, rfl, (Or.inl (⟨c1, c4, c7, c10, c15⟩))⟩)) [] rfl rfl rfl dX12_dips_303
          · refine lv_iload hx hb dX12_dips_166 (lv_at hl 3 rfl) ?_
            exact z_iret C0 hr hlk rfl hK hP hD hS (1, fun _ => 0) (Or.inr (⟨rfl, rfl, (Or.inr (⟨c1, c4, c7, c10, c15⟩))⟩)) [] rfl rfl rfl dX12_dips_168
