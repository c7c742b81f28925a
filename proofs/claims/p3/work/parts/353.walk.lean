set_option maxHeartbeats 4000000 in
set_option maxRecDepth 100000 in
theorem s_X12_helped_1 (l : Launch) (D : va_G) (k : Nat → ClassId) (T : zTy) (q_0 : Nat) (q_1 : Nat) (q_2 : Nat) (q_3 : Nat) (q_4 : Nat) (q_5 : Nat) (q_6 : Nat) (q_7 : Nat) (q_8 : Nat) (q_9 : Nat) (q_10 : Nat) (q_11 : Nat) (q_12 : Nat) (q_13 : Nat) (q_14 : Nat) (q_15 : Nat) (q_16 : Nat) (q_17 : Nat) (q_18 : Nat) (q_19 : Nat) (q_20 : Nat) (q_21 : Nat) (q_22 : Nat) (q_23 : Nat) (q_24 : Nat) (q_25 : Nat) (x_0 : Int32) (x_1 : Int32) (x_2 : Int32) (x_3 : Int32) (x_4 : Int32) (x_5 : Int32) (x_6 : Int32) (x_7 : Int32) (g_8 : Int64) (x_9 : Int32) (x_10 : Int32) (x_11 : Int32) (x_12 : Int32) (x_13 : Int32) (x_14 : Int32) (x_15 : Int32) (x_16 : Int32) (g_17 : Int64) (g_18 : Int64) (x_19 : Int32) (x_20 : Int32) (x_21 : Int32) (x_22 : Int32) (x_23 : Int32) (x_24 : Int32) (x_25 : Int32) (x_26 : Int32) (x_27 : Int32) (x_28 : Int32) (x_29 : Int32) (x_30 : Int32) (x_31 : Int32) (f_32 : Nat → Int32) (h_x_4 : 0 ≤ Int32.toInt x_4 ∧ Int32.toInt x_4 ≤ 400) (h_x_5 : 0 ≤ Int32.toInt x_5 ∧ Int32.toInt x_5 ≤ 400) (h_x_6 : 0 ≤ Int32.toInt x_6 ∧ Int32.toInt x_6 ≤ 400) (h_x_7 : 0 ≤ Int32.toInt x_7 ∧ Int32.toInt x_7 ≤ 3) (h_x_10 : 0 ≤ Int32.toInt x_10 ∧ Int32.toInt x_10 ≤ 1) (h_x_11 : 0 ≤ Int32.toInt x_11 ∧ Int32.toInt x_11 ≤ 12) (h_x_12 : 0 ≤ Int32.toInt x_12 ∧ Int32.toInt x_12 ≤ 400) (h_x_13 : 0 ≤ Int32.toInt x_13 ∧ Int32.toInt x_13 ≤ 50) (h_x_14 : 0 ≤ Int32.toInt x_14 ∧ Int32.toInt x_14 ≤ 400) (h_x_16 : 0 ≤ Int32.toInt x_16 ∧ Int32.toInt x_16 ≤ 1) (h_x_19 : 0 ≤ Int32.toInt x_19 ∧ Int32.toInt x_19 ≤ 400) (h_x_21 : 0 ≤ Int32.toInt x_21 ∧ Int32.toInt x_21 ≤ 400) (h_x_22 : 0 ≤ Int32.toInt x_22 ∧ Int32.toInt x_22 ≤ 400) (h_x_24 : 0 ≤ Int32.toInt x_24 ∧ Int32.toInt x_24 ≤ 1) (h_x_25 : 0 ≤ Int32.toInt x_25 ∧ Int32.toInt x_25 ≤ 6) (h_f_32 : zRw f_32) : zMi l yX12_helped cX12_helped 11 (some .int) ({ frames := 1, cells := 0, slots := 0, locals := 25 }) D k T [.ref q_0, .int x_0] [(q_0, .inr (12, [.int x_1, .int x_2, .ref q_1, .ref q_2, .ref q_3, .int x_3, .ref q_4, .ref q_5, .ref q_6, .ref q_7, .ref q_8, .int x_4, .int x_5, .int x_6, .int x_7, .long g_8, .int x_9, .int x_10, .int x_11, .ref q_9, .int x_12, .ref q_10, .ref q_11, .int x_13, .ref q_12, .ref q_13, .int x_14, .int x_15, .ref q_14, .ref q_15, .ref q_16, .ref q_17, .int x_16, .long g_17, .long g_18, .int x_19, .int x_20, .int x_21, .int x_22, .ref q_18, .ref q_19, .int x_23, .int x_24, .int x_25, .int x_26, .ref q_20, .ref q_21, .int x_27, .int x_28, .ref q_22, .ref q_23, .ref q_24, .ref q_25, .int x_29, .int x_30, .int x_31])), (q_1, .inl (k 0, 27101, .inl f_32))] (fun r u => u.1 = 0) (fun u => [(q_0, .inr (12, [.int 0, .int x_2, .ref q_1, .ref q_2, .ref q_3, .int x_3, .ref q_4, .ref q_5, .ref q_6, .ref q_7, .ref q_8, .int x_4, .int x_5, .int x_6, .int x_7, .long g_8, .int x_9, .int x_10, .int x_11, .ref q_9, .int x_12, .ref q_10, .ref q_11, .int x_13, .ref q_12, .ref q_13, .int x_14, .int x_15, .ref q_14, .ref q_15, .ref q_16, .ref q_17, .int x_16, .long g_17, .long g_18, .int x_19, .int x_20, .int x_21, .int x_22, .ref q_18, .ref q_19, .int x_23, .int x_24, .int x_25, .int x_26, .ref q_20, .ref q_21, .int x_27, .int x_28, .ref q_22, .ref q_23, .ref q_24, .ref q_25, .int x_29, .int x_30, .int x_31])), (q_1, .inl (k 0, 27101, .inl f_32))]) := by
  refine zMi_of (own := RX12) (by decide +kernel) rfl (Nat.le_of_ble_eq_true rfl) ?_
  intro p e s m args below meth c A ls C0 hr hlk hin hP hD hS hA hK hN hT hl
  have hx := C0.1
  have hb := C0.2.1
  have hml := C0.2.2.1
  have hown := C0.2.2.2.1
  have hts := C0.2.2.2.2
  have hl : lv_has ls 11 [(0, .ref q_0), (1, .int x_0)] := hl
  have hP : va_P D vwCl [(q_0, .inr (12, [.int x_1, .int x_2, .ref q_1, .ref q_2, .ref q_3, .int x_3, .ref q_4, .ref q_5, .ref q_6, .ref q_7, .ref q_8, .int x_4, .int x_5, .int x_6, .int x_7, .long g_8, .int x_9, .int x_10, .int x_11, .ref q_9, .int x_12, .ref q_10, .ref q_11, .int x_13, .ref q_12, .ref q_13, .int x_14, .int x_15, .ref q_14, .ref q_15, .ref q_16, .ref q_17, .int x_16, .long g_17, .long g_18, .int x_19, .int x_20, .int x_21, .int x_22, .ref q_18, .ref q_19, .int x_23, .int x_24, .int x_25, .int x_26, .ref q_20, .ref q_21, .int x_27, .int x_28, .ref q_22, .ref q_23, .ref q_24, .ref q_25, .int x_29, .int x_30, .int x_31])), (q_1, .inl (k 0, 27101, .inl f_32))] s.heap := hP
  refine lv_aload_n hx hb dX12_helped_0 rfl (lv_at hl 0 rfl) ?_
  refine lv_iconst (v := 0) hx hb dX12_helped_1 (by decide) ?_
  refine va_put (D := D) (ci := 12) (v := .int 0) (ty := .int) (C := RX12) (T := TX12) (N := 56) hx hb hts inX12 tyX12 tyX12_ok nmX12 hown hK hP hD hS 0 rfl rfl 0 (by decide) (hts _ kF_X12_92) (fun _ h9 => h9) rfl (by decide +kernel) rfl rfl (Nat.le_of_ble_eq_true rfl) dX12_helped_2 (fun H locs hP hD hS => ?_)
  have hP : va_P D vwCl [(q_0, .inr (12, [.int 0, .int x_2, .ref q_1, .ref q_2, .ref q_3, .int x_3, .ref q_4, .ref q_5, .ref q_6, .ref q_7, .ref q_8, .int x_4, .int x_5, .int x_6, .int x_7, .long g_8, .int x_9, .int x_10, .int x_11, .ref q_9, .int x_12, .ref q_10, .ref q_11, .int x_13, .ref q_12, .ref q_13, .int x_14, .int x_15, .ref q_14, .ref q_15, .ref q_16, .ref q_17, .int x_16, .long g_17, .long g_18, .int x_19, .int x_20, .int x_21, .int x_22, .ref q_18, .ref q_19, .int x_23, .int x_24, .int x_25, .int x_26, .ref q_20, .ref q_21, .int x_27, .int x_28, .ref q_22, .ref q_23, .ref q_24, .ref q_25, .int x_29, .int x_30, .int x_31])), (q_1, .inl (k 0, 27101, .inl f_32))] H := hP
  have hD : va_D A [(q_0, .inr (12, [.int 0, .int x_2, .ref q_1, .ref q_2, .ref q_3, .int x_3, .ref q_4, .ref q_5, .ref q_6, .ref q_7, .ref q_8, .int x_4, .int x_5, .int x_6, .int x_7, .long g_8, .int x_9, .int x_10, .int x_11, .ref q_9, .int x_12, .ref q_10, .ref q_11, .int x_13, .ref q_12, .ref q_13, .int x_14, .int x_15, .ref q_14, .ref q_15, .ref q_16, .ref q_17, .int x_16, .long g_17, .long g_18, .int x_19, .int x_20, .int x_21, .int x_22, .ref q_18, .ref q_19, .int x_23, .int x_24, .int x_25, .int x_26, .ref q_20, .ref q_21, .int x_27, .int x_28, .ref q_22, .ref q_23, .ref q_24, .ref q_25, .int x_29, .int x_30, .int x_31])), (q_1, .inl (k 0, 27101, .inl f_32))] := hD
  refine lv_iload_n hx hb dX12_helped_5 rfl (lv_at hl 1 rfl) ?_
  refine lv_i2l (v := (Int32.toInt64 x_0)) hx hb dX12_helped_6 rfl ?_
  refine lv_lconst (v := 0) hx hb dX12_helped_7 (by decide) ?_
  refine lv_lconst (v := 1) hx hb dX12_helped_8 (by decide) ?_
  refine z_bi0 (z_runS (As := [.long (Int32.toInt64 x_0), .long 0, .long 1]) (rest := []) C0 (s_X12_in_1 l D k T (Int32.toInt64 x_0) 0 1 _) okS_X12_in kM_X12_100 rfl (z_p0 hT hS hA hK hN) rfl hl.1 rfl (Nat.le_of_ble_eq_true rfl) dX12_helped_9 rfl) hP hS hA (fun r1 u1 H locs hw1 hP hS => ?_)
  obtain ⟨i1, a1, v1, w1, f1, g1, o1⟩ := u1
  dsimp only at hw1
  rcases hw1 with ⟨rfl, rfl, c1⟩ | ⟨rfl, rfl, c1⟩
  · refine lv_if_ne (tgt := 17) hx hb dX12_helped_12 (by decide) (fun c2 => absurd (by decide) c2) (fun _ => ?_)
    refine lv_iconst (v := (-1)) hx hb dX12_helped_15 (by decide) ?_
    exact z_iret C0 hr hlk rfl hK hP hD hS (0, fun _ => 0, fun _ => 0, fun _ => 0, fun _ => (fun _ => 0), fun _ => (fun _ => 0), fun _ => (fun _ => none)) rfl [0, 1] rfl rfl rfl dX12_helped_16
  · refine lv_if_ne (tgt := 17) hx hb dX12_helped_12 (by decide) (fun _ => ?_) (fun c3 => absurd c3 (by decide))
    refine lv_aload_n hx hb dX12_helped_17 rfl (lv_at hl 0 rfl) ?_
    refine va_get (D := D) (ci := 12) (v := .ref q_1) (C := RX12) (T := TX12) (N := 56) hx hb hts inX12 hown hK hP 0 rfl rfl 2 (by decide) (hts _ kF_X12_7) (fun _ h9 => h9) rfl dX12_helped_18 ?_
    refine lv_bipush (v := 8) hx hb dX12_helped_21 (by decide) ?_
    refine va_iald hx hb hK hP 1 0 rfl rfl (by unfold vp_in; decide) dX12_helped_23 ?_
    refine lv_topi (fun y4 ey4 => ?_)
    have hy4 : 0 ≤ Int32.toInt y4 ∧ Int32.toInt y4 ≤ 12 := by rw [ey4]; exact zW_8 h_f_32
    refine lv_istore_n (lv' := [(2, .int y4), (0, .ref q_0), (1, .int x_0)]) hx hb dX12_helped_24 rfl hl (by decide) rfl (fun ls hl => ?_)
    refine lv_iconst (v := 0) hx hb dX12_helped_25 (by decide) ?_
    refine lv_istore_n (lv' := [(3, .int 0), (2, .int y4), (0, .ref q_0), (1, .int x_0)]) hx hb dX12_helped_26 rfl hl (by decide) rfl (fun ls hl => ?_)
    refine lv_iconst (v := 0) hx hb dX12_helped_27 (by decide) ?_
    refine lv_istore (lv' := [(4, .int 0), (3, .int 0), (2, .int y4), (0, .ref q_0), (1, .int x_0)]) hx hb dX12_helped_28 hl (by decide) rfl (fun ls hl => ?_)
    refine lv_iconst (v := 0) hx hb dX12_helped_30 (by decide) ?_
    refine lv_istore (lv' := [(5, .int 0), (4, .int 0), (3, .int 0), (2, .int y4), (0, .ref q_0), (1, .int x_0)]) hx hb dX12_helped_31 hl (by decide) rfl (fun ls hl => ?_)
    have loop35 : ∀ (N36 : Nat) (y32 : Int32) (y33 : Int32) (y34 : Int32) (H : Heap) (locs : List Loc) (ls : Array Slot), Int.toNat (12 - Int32.toInt y32) < N36 → 0 ≤ Int32.toInt y32 ∧ Int32.toInt y32 ≤ 12 → va_P D vwCl [(q_0, .inr (12, [.int 0, .int x_2, .ref q_1, .ref q_2, .ref q_3, .int x_3, .ref q_4, .ref q_5, .ref q_6, .ref q_7, .ref q_8, .int x_4, .int x_5, .int x_6, .int x_7, .long g_8, .int x_9, .int x_10, .int x_11, .ref q_9, .int x_12, .ref q_10, .ref q_11, .int x_13, .ref q_12, .ref q_13, .int x_14, .int x_15, .ref q_14, .ref q_15, .ref q_16, .ref q_17, .int x_16, .long g_17, .long g_18, .int x_19, .int x_20, .int x_21, .int x_22, .ref q_18, .ref q_19, .int x_23, .int x_24, .int x_25, .int x_26, .ref q_20, .ref q_21, .int x_27, .int x_28, .ref q_22, .ref q_23, .ref q_24, .ref q_25, .int x_29, .int x_30, .int x_31])), (q_1, .inl (k 0, 27101, .inl f_32))] H → va_D A [(q_0, .inr (12, [.int 0, .int x_2, .ref q_1, .ref q_2, .ref q_3, .int x_3, .ref q_4, .ref q_5, .ref q_6, .ref q_7, .ref q_8, .int x_4, .int x_5, .int x_6, .int x_7, .long g_8, .int x_9, .int x_10, .int x_11, .ref q_9, .int x_12, .ref q_10, .ref q_11, .int x_13, .ref q_12, .ref q_13, .int x_14, .int x_15, .ref q_14, .ref q_15, .ref q_16, .ref q_17, .int x_16, .long g_17, .long g_18, .int x_19, .int x_20, .int x_21, .int x_22, .ref q_18, .ref q_19, .int x_23, .int x_24, .int x_25, .int x_26, .ref q_20, .ref q_21, .int x_27, .int x_28, .ref q_22, .ref q_23, .ref q_24, .ref q_25, .int x_29, .int x_30, .int x_31])), (q_1, .inl (k 0, 27101, .inl f_32))] → va_S A s.heap H locs → lv_has ls 11 [(5, .int y32), (4, .int y33), (3, .int y34), (2, .int y4), (0, .ref q_0), (1, .int x_0)] → W p l e { frames := 1, cells := 0, slots := 0, locals := 25 } s m args below meth c H locs 0 0 (MQ below (va_Qi (fun (r : Int32) (u : zS) => u.1 = 0) (zB D k A (fun (u : zS) => [(q_0, .inr (12, [.int 0, .int x_2, .ref q_1, .ref q_2, .ref q_3, .int x_3, .ref q_4, .ref q_5, .ref q_6, .ref q_7, .ref q_8, .int x_4, .int x_5, .int x_6, .int x_7, .long g_8, .int x_9, .int x_10, .int x_11, .ref q_9, .int x_12, .ref q_10, .ref q_11, .int x_13, .ref q_12, .ref q_13, .int x_14, .int x_15, .ref q_14, .ref q_15, .ref q_16, .ref q_17, .int x_16, .long g_17, .long g_18, .int x_19, .int x_20, .int x_21, .int x_22, .ref q_18, .ref q_19, .int x_23, .int x_24, .int x_25, .int x_26, .ref q_20, .ref q_21, .int x_27, .int x_28, .ref q_22, .ref q_23, .ref q_24, .ref q_25, .int x_29, .int x_30, .int x_31])), (q_1, .inl (k 0, 27101, .inl f_32))])) A) args s 0 0 A) (F0 m 33 ls []) := by
      intro N36
      induction N36 with
      | zero => intro y32 y33 y34 H locs ls hm; exact absurd hm (Nat.not_lt_zero _)
      | succ N36 ihN36 =>
        intro y32 y33 y34 H locs ls hN36 hy32 hP hD hS hl
        refine lv_iload hx hb dX12_helped_33 (lv_at hl 0 rfl) ?_
        refine lv_iload_n hx hb dX12_helped_35 rfl (lv_at hl 3 rfl) ?_
        refine lv_icmp_ge (tgt := 99) hx hb dX12_helped_36 (by decide) (fun c37 => ?_) (fun c37 => ?_)
        · refine lv_iconst (v := 0) hx hb dX12_helped_99 (by decide) ?_
          refine lv_istore (lv' := [(5, .int 0), (4, .int y33), (3, .int y34), (2, .int y4), (0, .ref q_0), (1, .int x_0)]) hx hb dX12_helped_100 hl (by decide) rfl (fun ls hl => ?_)
          refine lv_iconst (v := 0) hx hb dX12_helped_102 (by decide) ?_
          refine lv_istore (lv' := [(6, .int 0), (5, .int 0), (4, .int y33), (3, .int y34), (2, .int y4), (0, .ref q_0), (1, .int x_0)]) hx hb dX12_helped_103 hl (by decide) rfl (fun ls hl => ?_)
          refine lv_iconst (v := 0) hx hb dX12_helped_105 (by decide) ?_
          refine lv_istore (lv' := [(7, .int 0), (6, .int 0), (5, .int 0), (4, .int y33), (3, .int y34), (2, .int y4), (0, .ref q_0), (1, .int x_0)]) hx hb dX12_helped_106 hl (by decide) rfl (fun ls hl => ?_)
          have loop125 : ∀ (N126 : Nat) (y122 : Int32) (y123 : Int32) (y124 : Int32) (H : Heap) (locs : List Loc) (ls : Array Slot), Int.toNat (4096 - Int32.toInt y122) < N126 → 0 ≤ Int32.toInt y122 ∧ Int32.toInt y122 ≤ 4096 → va_P D vwCl [(q_0, .inr (12, [.int 0, .int x_2, .ref q_1, .ref q_2, .ref q_3, .int x_3, .ref q_4, .ref q_5, .ref q_6, .ref q_7, .ref q_8, .int x_4, .int x_5, .int x_6, .int x_7, .long g_8, .int x_9, .int x_10, .int x_11, .ref q_9, .int x_12, .ref q_10, .ref q_11, .int x_13, .ref q_12, .ref q_13, .int x_14, .int x_15, .ref q_14, .ref q_15, .ref q_16, .ref q_17, .int x_16, .long g_17, .long g_18, .int x_19, .int x_20, .int x_21, .int x_22, .ref q_18, .ref q_19, .int x_23, .int x_24, .int x_25, .int x_26, .ref q_20, .ref q_21, .int x_27, .int x_28, .ref q_22, .ref q_23, .ref q_24, .ref q_25, .int x_29, .int x_30, .int x_31])), (q_1, .inl (k 0, 27101, .inl f_32))] H → va_D A [(q_0, .inr (12, [.int 0, .int x_2, .ref q_1, .ref q_2, .ref q_3, .int x_3, .ref q_4, .ref q_5, .ref q_6, .ref q_7, .ref q_8, .int x_4, .int x_5, .int x_6, .int x_7, .long g_8, .int x_9, .int x_10, .int x_11, .ref q_9, .int x_12, .ref q_10, .ref q_11, .int x_13, .ref q_12, .ref q_13, .int x_14, .int x_15, .ref q_14, .ref q_15, .ref q_16, .ref q_17, .int x_16, .long g_17, .long g_18, .int x_19, .int x_20, .int x_21, .int x_22, .ref q_18, .ref q_19, .int x_23, .int x_24, .int x_25, .int x_26, .ref q_20, .ref q_21, .int x_27, .int x_28, .ref q_22, .ref q_23, .ref q_24, .ref q_25, .int x_29, .int x_30, .int x_31])), (q_1, .inl (k 0, 27101, .inl f_32))] → va_S A s.heap H locs → lv_has ls 11 [(7, .int y122), (6, .int y123), (5, .int y124), (4, .int y33), (3, .int y34), (2, .int y4), (0, .ref q_0), (1, .int x_0)] → W p l e { frames := 1, cells := 0, slots := 0, locals := 25 } s m args below meth c H locs 0 0 (MQ below (va_Qi (fun (r : Int32) (u : zS) => u.1 = 0) (zB D k A (fun (u : zS) => [(q_0, .inr (12, [.int 0, .int x_2, .ref q_1, .ref q_2, .ref q_3, .int x_3, .ref q_4, .ref q_5, .ref q_6, .ref q_7, .ref q_8, .int x_4, .int x_5, .int x_6, .int x_7, .long g_8, .int x_9, .int x_10, .int x_11, .ref q_9, .int x_12, .ref q_10, .ref q_11, .int x_13, .ref q_12, .ref q_13, .int x_14, .int x_15, .ref q_14, .ref q_15, .ref q_16, .ref q_17, .int x_16, .long g_17, .long g_18, .int x_19, .int x_20, .int x_21, .int x_22, .ref q_18, .ref q_19, .int x_23, .int x_24, .int x_25, .int x_26, .ref q_20, .ref q_21, .int x_27, .int x_28, .ref q_22, .ref q_23, .ref q_24, .ref q_25, .int x_29, .int x_30, .int x_31])), (q_1, .inl (k 0, 27101, .inl f_32))])) A) args s 0 0 A) (F0 m 108 ls []) := by
            intro N126
            induction N126 with
            | zero => intro y122 y123 y124 H locs ls hm; exact absurd hm (Nat.not_lt_zero _)
            | succ N126 ihN126 =>
              intro y122 y123 y124 H locs ls hN126 hy122 hP hD hS hl
              refine lv_iload hx hb dX12_helped_108 (lv_at hl 0 rfl) ?_
              refine lv_iconst (v := 1) hx hb dX12_helped_110 (by decide) ?_
              refine lv_iload_n hx hb dX12_helped_111 rfl (lv_at hl 5 rfl) ?_
              refine lv_ishl hx hb dX12_helped_112 ?_
              refine lv_topi (fun y127 ey127 => ?_)
              have hy127 : 1 ≤ Int32.toInt y127 ∧ Int32.toInt y127 ≤ 4096 := by rw [ey127]; exact zo_shl1 12 (show 0 ≤ Int32.toInt y4 ∧ Int32.toInt y4 ≤ 12 by revert hy4 c37 hN36 hy32; first | omega | (simp only [vp_in_iff, Int32.lt_iff_toInt_lt, Int32.le_iff_toInt_le, Int64.lt_iff_toInt_lt, Int64.le_iff_toInt_le, Int32.toInt_toInt64, ← Int32.toInt_inj, ← Int64.toInt_inj, Int32.reduceToInt, Int64.reduceToInt] <;> omega)) (by decide)
              refine lv_icmp_ge (tgt := 222) hx hb dX12_helped_113 (by decide) (fun c128 => ?_) (fun c128 => ?_)
              · refine lv_iload_n hx hb dX12_helped_222 rfl (lv_at hl 7 rfl) ?_
                refine lv_if_ne (tgt := 231) hx hb dX12_helped_223 (by decide) (fun c129 => ?_) (fun c129 => ?_)
                · refine lv_iload hx hb dX12_helped_231 (lv_at hl 2 rfl) ?_
                  exact z_iret C0 hr hlk rfl hK hP hD hS (0, fun _ => 0, fun _ => 0, fun _ => 0, fun _ => (fun _ => 0), fun _ => (fun _ => 0), fun _ => (fun _ => none)) rfl [0, 1] rfl rfl rfl dX12_helped_233
                · refine lv_iload hx hb dX12_helped_226 (lv_at hl 1 rfl) ?_
                  refine lv_goto (tgt := 233) hx hb dX12_helped_228 (by decide) ?_
                  exact z_iret C0 hr hlk rfl hK hP hD hS (0, fun _ => 0, fun _ => 0, fun _ => 0, fun _ => (fun _ => 0), fun _ => (fun _ => 0), fun _ => (fun _ => none)) rfl [0, 1] rfl rfl rfl dX12_helped_233
              · refine lv_iconst (v := 0) hx hb dX12_helped_116 (by decide) ?_
                refine lv_istore (lv' := [(8, .int 0), (7, .int y122), (6, .int y123), (5, .int y124), (4, .int y33), (3, .int y34), (2, .int y4), (0, .ref q_0), (1, .int x_0)]) hx hb dX12_helped_117 hl (by decide) rfl (fun ls hl => ?_)
                refine lv_iconst (v := 0) hx hb dX12_helped_119 (by decide) ?_
                refine lv_istore (lv' := [(9, .int 0), (8, .int 0), (7, .int y122), (6, .int y123), (5, .int y124), (4, .int y33), (3, .int y34), (2, .int y4), (0, .ref q_0), (1, .int x_0)]) hx hb dX12_helped_120 hl (by decide) rfl (fun ls hl => ?_)
                refine lv_iconst (v := 0) hx hb dX12_helped_122 (by decide) ?_
                refine lv_istore (lv' := [(10, .int 0), (9, .int 0), (8, .int 0), (7, .int y122), (6, .int y123), (5, .int y124), (4, .int y33), (3, .int y34), (2, .int y4), (0, .ref q_0), (1, .int x_0)]) hx hb dX12_helped_123 hl (by decide) rfl (fun ls hl => ?_)
                have loop217 : ∀ (N218 : Nat) (y214 : Int32) (y215 : Int32) (y216 : Int32) (H : Heap) (locs : List Loc) (ls : Array Slot), Int.toNat (12 - Int32.toInt y214) < N218 → 0 ≤ Int32.toInt y214 ∧ Int32.toInt y214 ≤ 12 → va_P D vwCl [(q_0, .inr (12, [.int 0, .int x_2, .ref q_1, .ref q_2, .ref q_3, .int x_3, .ref q_4, .ref q_5, .ref q_6, .ref q_7, .ref q_8, .int x_4, .int x_5, .int x_6, .int x_7, .long g_8, .int x_9, .int x_10, .int x_11, .ref q_9, .int x_12, .ref q_10, .ref q_11, .int x_13, .ref q_12, .ref q_13, .int x_14, .int x_15, .ref q_14, .ref q_15, .ref q_16, .ref q_17, .int x_16, .long g_17, .long g_18, .int x_19, .int x_20, .int x_21, .int x_22, .ref q_18, .ref q_19, .int x_23, .int x_24, .int x_25, .int x_26, .ref q_20, .ref q_21, .int x_27, .int x_28, .ref q_22, .ref q_23, .ref q_24, .ref q_25, .int x_29, .int x_30, .int x_31])), (q_1, .inl (k 0, 27101, .inl f_32))] H → va_D A [(q_0, .inr (12, [.int 0, .int x_2, .ref q_1, .ref q_2, .ref q_3, .int x_3, .ref q_4, .ref q_5, .ref q_6, .ref q_7, .ref q_8, .int x_4, .int x_5, .int x_6, .int x_7, .long g_8, .int x_9, .int x_10, .int x_11, .ref q_9, .int x_12, .ref q_10, .ref q_11, .int x_13, .ref q_12, .ref q_13, .int x_14, .int x_15, .ref q_14, .ref q_15, .ref q_16, .ref q_17, .int x_16, .long g_17, .long g_18, .int x_19, .int x_20, .int x_21, .int x_22, .ref q_18, .ref q_19, .int x_23, .int x_24, .int x_25, .int x_26, .ref q_20, .ref q_21, .int x_27, .int x_28, .ref q_22, .ref q_23, .ref q_24, .ref q_25, .int x_29, .int x_30, .int x_31])), (q_1, .inl (k 0, 27101, .inl f_32))] → va_S A s.heap H locs → lv_has ls 11 [(10, .int y214), (9, .int y215), (8, .int y216), (7, .int y122), (6, .int y123), (5, .int y124), (4, .int y33), (3, .int y34), (2, .int y4), (0, .ref q_0), (1, .int x_0)] → W p l e { frames := 1, cells := 0, slots := 0, locals := 25 } s m args below meth c H locs 0 0 (MQ below (va_Qi (fun (r : Int32) (u : zS) => u.1 = 0) (zB D k A (fun (u : zS) => [(q_0, .inr (12, [.int 0, .int x_2, .ref q_1, .ref q_2, .ref q_3, .int x_3, .ref q_4, .ref q_5, .ref q_6, .ref q_7, .ref q_8, .int x_4, .int x_5, .int x_6, .int x_7, .long g_8, .int x_9, .int x_10, .int x_11, .ref q_9, .int x_12, .ref q_10, .ref q_11, .int x_13, .ref q_12, .ref q_13, .int x_14, .int x_15, .ref q_14, .ref q_15, .ref q_16, .ref q_17, .int x_16, .long g_17, .long g_18, .int x_19, .int x_20, .int x_21, .int x_22, .ref q_18, .ref q_19, .int x_23, .int x_24, .int x_25, .int x_26, .ref q_20, .ref q_21, .int x_27, .int x_28, .ref q_22, .ref q_23, .ref q_24, .ref q_25, .int x_29, .int x_30, .int x_31])), (q_1, .inl (k 0, 27101, .inl f_32))])) A) args s 0 0 A) (F0 m 125 ls []) := by
                  intro N218
                  induction N218 with
                  | zero => intro y214 y215 y216 H locs ls hm; exact absurd hm (Nat.not_lt_zero _)
                  | succ N218 ihN218 =>
                    intro y214 y215 y216 H locs ls hN218 hy214 hP hD hS hl
                    refine lv_iload hx hb dX12_helped_125 (lv_at hl 0 rfl) ?_
                    refine lv_iload_n hx hb dX12_helped_127 rfl (lv_at hl 8 rfl) ?_
                    refine lv_icmp_ge (tgt := 177) hx hb dX12_helped_128 (by decide) (fun c219 => ?_) (fun c219 => ?_)
                    · refine lv_iload hx hb dX12_helped_177 (lv_at hl 5 rfl) ?_
                      refine lv_iload hx hb dX12_helped_179 (lv_at hl 2 rfl) ?_
                      refine lv_iload_n hx hb dX12_helped_181 rfl (lv_at hl 7 rfl) ?_
                      refine lv_icmp_ne (tgt := 189) hx hb dX12_helped_182 (by decide) (fun c220 => ?_) (fun c220 => ?_)
                      · refine lv_iconst (v := 0) hx hb dX12_helped_189 (by decide) ?_
                        refine lv_iadd hx hb dX12_helped_190 ?_
                        refine lv_topi (fun y221 ey221 => ?_)
                        have hy221 : Int32.toInt y221 = Int32.toInt y124 + 0 := by rw [ey221]; exact zi_addc rfl (by decide) (by have := Int32.le_toInt y124; have := Int32.toInt_lt y124; first | omega | (simp only [vp_in_iff, Int32.lt_iff_toInt_lt, Int32.le_iff_toInt_le, Int64.lt_iff_toInt_lt, Int64.le_iff_toInt_le, Int32.toInt_toInt64, ← Int32.toInt_inj, ← Int64.toInt_inj, Int32.reduceToInt, Int64.reduceToInt] <;> omega))
                        refine lv_istore (lv' := [(5, .int y221), (10, .int y214), (9, .int y215), (8, .int y216), (7, .int y122), (6, .int y123), (4, .int y33), (3, .int y34), (2, .int y4), (0, .ref q_0), (1, .int x_0)]) hx hb dX12_helped_191 hl (by decide) rfl (fun ls hl => ?_)
                        refine lv_iload hx hb dX12_helped_193 (lv_at hl 5 rfl) ?_
                        refine lv_iload hx hb dX12_helped_195 (lv_at hl 3 rfl) ?_
                        refine lv_iload_n hx hb dX12_helped_197 rfl (lv_at hl 7 rfl) ?_
                        refine lv_icmp_ne (tgt := 212) hx hb dX12_helped_198 (by decide) (fun c222 => ?_) (fun c222 => ?_)
                        · refine lv_iconst (v := 0) hx hb dX12_helped_212 (by decide) ?_
                          refine lv_iadd hx hb dX12_helped_213 ?_
                          refine lv_topi (fun y223 ey223 => ?_)
                          have hy223 : Int32.toInt y223 = Int32.toInt y123 + 0 := by rw [ey223]; exact zi_addc rfl (by decide) (by have := Int32.le_toInt y123; have := Int32.toInt_lt y123; first | omega | (simp only [vp_in_iff, Int32.lt_iff_toInt_lt, Int32.le_iff_toInt_le, Int64.lt_iff_toInt_lt, Int64.le_iff_toInt_le, Int32.toInt_toInt64, ← Int32.toInt_inj, ← Int64.toInt_inj, Int32.reduceToInt, Int64.reduceToInt] <;> omega))
                          refine lv_istore (lv' := [(6, .int y223), (5, .int y221), (10, .int y214), (9, .int y215), (8, .int y216), (7, .int y122), (4, .int y33), (3, .int y34), (2, .int y4), (0, .ref q_0), (1, .int x_0)]) hx hb dX12_helped_214 hl (by decide) rfl (fun ls hl => ?_)
                          obtain ⟨y224, ey224⟩ : ∃ q : Int32, q = y122 + 1 := ⟨_, rfl⟩
                          have hy224 : Int32.toInt y224 = Int32.toInt y122 + 1 := by rw [ey224]; exact zi_addc rfl (by decide) (by revert hN126 hy122 c128 hy127; first | omega | (simp only [vp_in_iff, Int32.lt_iff_toInt_lt, Int32.le_iff_toInt_le, Int64.lt_iff_toInt_lt, Int64.le_iff_toInt_le, Int32.toInt_toInt64, ← Int32.toInt_inj, ← Int64.toInt_inj, Int32.reduceToInt, Int64.reduceToInt] <;> omega))
                          refine lv_iinc (v := y224) (lv' := [(7, .int y224), (6, .int y223), (5, .int y221), (10, .int y214), (9, .int y215), (8, .int y216), (4, .int y33), (3, .int y34), (2, .int y4), (0, .ref q_0), (1, .int x_0)]) hx hb dX12_helped_216 hl (k := 5) rfl (by rw [ey224]; exact zz_inc (by decide)) (by decide) rfl (fun ls hl => ?_)
                          refine lv_goto (tgt := 108) hx hb dX12_helped_219 (by decide) ?_
                          exact ihN126 y224 y223 y221 _ _ ls (by revert hN126 hy122 c128 hy224 hy127; first | omega | (simp only [vp_in_iff, Int32.lt_iff_toInt_lt, Int32.le_iff_toInt_le, Int64.lt_iff_toInt_lt, Int64.le_iff_toInt_le, Int32.toInt_toInt64, ← Int32.toInt_inj, ← Int64.toInt_inj, Int32.reduceToInt, Int64.reduceToInt] <;> omega)) (by revert hN126 hy122 c128 hy224 hy127; first | omega | (simp only [vp_in_iff, Int32.lt_iff_toInt_lt, Int32.le_iff_toInt_le, Int64.lt_iff_toInt_lt, Int64.le_iff_toInt_le, Int32.toInt_toInt64, ← Int32.toInt_inj, ← Int64.toInt_inj, Int32.reduceToInt, Int64.reduceToInt] <;> omega)) hP hD hS (lv_sub hl [0, 1, 2, 6, 7, 8, 9, 10] rfl)
                        · refine lv_iload hx hb dX12_helped_201 (lv_at hl 2 rfl) ?_
                          refine lv_iload hx hb dX12_helped_203 (lv_at hl 6 rfl) ?_
                          refine lv_icmp_lt (tgt := 212) hx hb dX12_helped_205 (by decide) (fun c225 => ?_) (fun c225 => ?_)
                          · refine lv_iconst (v := 0) hx hb dX12_helped_212 (by decide) ?_
                            refine lv_iadd hx hb dX12_helped_213 ?_
                            refine lv_topi (fun y226 ey226 => ?_)
                            have hy226 : Int32.toInt y226 = Int32.toInt y123 + 0 := by rw [ey226]; exact zi_addc rfl (by decide) (by have := Int32.le_toInt y123; have := Int32.toInt_lt y123; first | omega | (simp only [vp_in_iff, Int32.lt_iff_toInt_lt, Int32.le_iff_toInt_le, Int64.lt_iff_toInt_lt, Int64.le_iff_toInt_le, Int32.toInt_toInt64, ← Int32.toInt_inj, ← Int64.toInt_inj, Int32.reduceToInt, Int64.reduceToInt] <;> omega))
                            refine lv_istore (lv' := [(6, .int y226), (5, .int y221), (10, .int y214), (9, .int y215), (8, .int y216), (7, .int y122), (4, .int y33), (3, .int y34), (2, .int y4), (0, .ref q_0), (1, .int x_0)]) hx hb dX12_helped_214 hl (by decide) rfl (fun ls hl => ?_)
                            obtain ⟨y227, ey227⟩ : ∃ q : Int32, q = y122 + 1 := ⟨_, rfl⟩
                            have hy227 : Int32.toInt y227 = Int32.toInt y122 + 1 := by rw [ey227]; exact zi_addc rfl (by decide) (by revert hN126 hy122 c128 hy127; first | omega | (simp only [vp_in_iff, Int32.lt_iff_toInt_lt, Int32.le_iff_toInt_le, Int64.lt_iff_toInt_lt, Int64.le_iff_toInt_le, Int32.toInt_toInt64, ← Int32.toInt_inj, ← Int64.toInt_inj, Int32.reduceToInt, Int64.reduceToInt] <;> omega))
                            refine lv_iinc (v := y227) (lv' := [(7, .int y227), (6, .int y226), (5, .int y221), (10, .int y214), (9, .int y215), (8, .int y216), (4, .int y33), (3, .int y34), (2, .int y4), (0, .ref q_0), (1, .int x_0)]) hx hb dX12_helped_216 hl (k := 5) rfl (by rw [ey227]; exact zz_inc (by decide)) (by decide) rfl (fun ls hl => ?_)
                            refine lv_goto (tgt := 108) hx hb dX12_helped_219 (by decide) ?_
                            exact ihN126 y227 y226 y221 _ _ ls (by revert hN126 hy122 c128 hy227 hy127; first | omega | (simp only [vp_in_iff, Int32.lt_iff_toInt_lt, Int32.le_iff_toInt_le, Int64.lt_iff_toInt_lt, Int64.le_iff_toInt_le, Int32.toInt_toInt64, ← Int32.toInt_inj, ← Int64.toInt_inj, Int32.reduceToInt, Int64.reduceToInt] <;> omega)) (by revert hN126 hy122 c128 hy227 hy127; first | omega | (simp only [vp_in_iff, Int32.lt_iff_toInt_lt, Int32.le_iff_toInt_le, Int64.lt_iff_toInt_lt, Int64.le_iff_toInt_le, Int32.toInt_toInt64, ← Int32.toInt_inj, ← Int64.toInt_inj, Int32.reduceToInt, Int64.reduceToInt] <;> omega)) hP hD hS (lv_sub hl [0, 1, 2, 6, 7, 8, 9, 10] rfl)
                          · refine lv_iconst (v := 1) hx hb dX12_helped_208 (by decide) ?_
                            refine lv_goto (tgt := 213) hx hb dX12_helped_209 (by decide) ?_
                            refine lv_iadd hx hb dX12_helped_213 ?_
                            refine lv_topi (fun y228 ey228 => ?_)
                            refine lv_istore (lv' := [(6, .int y228), (5, .int y221), (10, .int y214), (9, .int y215), (8, .int y216), (7, .int y122), (4, .int y33), (3, .int y34), (2, .int y4), (0, .ref q_0), (1, .int x_0)]) hx hb dX12_helped_214 hl (by decide) rfl (fun ls hl => ?_)
                            obtain ⟨y229, ey229⟩ : ∃ q : Int32, q = y122 + 1 := ⟨_, rfl⟩
                            have hy229 : Int32.toInt y229 = Int32.toInt y122 + 1 := by rw [ey229]; exact zi_addc rfl (by decide) (by revert hN126 hy122 c128 hy127; first | omega | (simp only [vp_in_iff, Int32.lt_iff_toInt_lt, Int32.le_iff_toInt_le, Int64.lt_iff_toInt_lt, Int64.le_iff_toInt_le, Int32.toInt_toInt64, ← Int32.toInt_inj, ← Int64.toInt_inj, Int32.reduceToInt, Int64.reduceToInt] <;> omega))
                            refine lv_iinc (v := y229) (lv' := [(7, .int y229), (6, .int y228), (5, .int y221), (10, .int y214), (9, .int y215), (8, .int y216), (4, .int y33), (3, .int y34), (2, .int y4), (0, .ref q_0), (1, .int x_0)]) hx hb dX12_helped_216 hl (k := 5) rfl (by rw [ey229]; exact zz_inc (by decide)) (by decide) rfl (fun ls hl => ?_)
                            refine lv_goto (tgt := 108) hx hb dX12_helped_219 (by decide) ?_
                            exact ihN126 y229 y228 y221 _ _ ls (by revert hN126 hy122 c128 hy229 hy127; first | omega | (simp only [vp_in_iff, Int32.lt_iff_toInt_lt, Int32.le_iff_toInt_le, Int64.lt_iff_toInt_lt, Int64.le_iff_toInt_le, Int32.toInt_toInt64, ← Int32.toInt_inj, ← Int64.toInt_inj, Int32.reduceToInt, Int64.reduceToInt] <;> omega)) (by revert hN126 hy122 c128 hy229 hy127; first | omega | (simp only [vp_in_iff, Int32.lt_iff_toInt_lt, Int32.le_iff_toInt_le, Int64.lt_iff_toInt_lt, Int64.le_iff_toInt_le, Int32.toInt_toInt64, ← Int32.toInt_inj, ← Int64.toInt_inj, Int32.reduceToInt, Int64.reduceToInt] <;> omega)) hP hD hS (lv_sub hl [0, 1, 2, 6, 7, 8, 9, 10] rfl)
                      · refine lv_iconst (v := 1) hx hb dX12_helped_185 (by decide) ?_
                        refine lv_goto (tgt := 190) hx hb dX12_helped_186 (by decide) ?_
                        refine lv_iadd hx hb dX12_helped_190 ?_
                        refine lv_topi (fun y230 ey230 => ?_)
                        refine lv_istore (lv' := [(5, .int y230), (10, .int y214), (9, .int y215), (8, .int y216), (7, .int y122), (6, .int y123), (4, .int y33), (3, .int y34), (2, .int y4), (0, .ref q_0), (1, .int x_0)]) hx hb dX12_helped_191 hl (by decide) rfl (fun ls hl => ?_)
                        refine lv_iload hx hb dX12_helped_193 (lv_at hl 5 rfl) ?_
                        refine lv_iload hx hb dX12_helped_195 (lv_at hl 3 rfl) ?_
                        refine lv_iload_n hx hb dX12_helped_197 rfl (lv_at hl 7 rfl) ?_
                        refine lv_icmp_ne (tgt := 212) hx hb dX12_helped_198 (by decide) (fun c231 => ?_) (fun c231 => ?_)
                        · refine lv_iconst (v := 0) hx hb dX12_helped_212 (by decide) ?_
                          refine lv_iadd hx hb dX12_helped_213 ?_
                          refine lv_topi (fun y232 ey232 => ?_)
                          have hy232 : Int32.toInt y232 = Int32.toInt y123 + 0 := by rw [ey232]; exact zi_addc rfl (by decide) (by have := Int32.le_toInt y123; have := Int32.toInt_lt y123; first | omega | (simp only [vp_in_iff, Int32.lt_iff_toInt_lt, Int32.le_iff_toInt_le, Int64.lt_iff_toInt_lt, Int64.le_iff_toInt_le, Int32.toInt_toInt64, ← Int32.toInt_inj, ← Int64.toInt_inj, Int32.reduceToInt, Int64.reduceToInt] <;> omega))
                          refine lv_istore (lv' := [(6, .int y232), (5, .int y230), (10, .int y214), (9, .int y215), (8, .int y216), (7, .int y122), (4, .int y33), (3, .int y34), (2, .int y4), (0, .ref q_0), (1, .int x_0)]) hx hb dX12_helped_214 hl (by decide) rfl (fun ls hl => ?_)
                          obtain ⟨y233, ey233⟩ : ∃ q : Int32, q = y122 + 1 := ⟨_, rfl⟩
                          have hy233 : Int32.toInt y233 = Int32.toInt y122 + 1 := by rw [ey233]; exact zi_addc rfl (by decide) (by revert hN126 hy122 c128 hy127; first | omega | (simp only [vp_in_iff, Int32.lt_iff_toInt_lt, Int32.le_iff_toInt_le, Int64.lt_iff_toInt_lt, Int64.le_iff_toInt_le, Int32.toInt_toInt64, ← Int32.toInt_inj, ← Int64.toInt_inj, Int32.reduceToInt, Int64.reduceToInt] <;> omega))
                          refine lv_iinc (v := y233) (lv' := [(7, .int y233), (6, .int y232), (5, .int y230), (10, .int y214), (9, .int y215), (8, .int y216), (4, .int y33), (3, .int y34), (2, .int y4), (0, .ref q_0), (1, .int x_0)]) hx hb dX12_helped_216 hl (k := 5) rfl (by rw [ey233]; exact zz_inc (by decide)) (by decide) rfl (fun ls hl => ?_)
                          refine lv_goto (tgt := 108) hx hb dX12_helped_219 (by decide) ?_
                          exact ihN126 y233 y232 y230 _ _ ls (by revert hN126 hy122 c128 hy233 hy127; first | omega | (simp only [vp_in_iff, Int32.lt_iff_toInt_lt, Int32.le_iff_toInt_le, Int64.lt_iff_toInt_lt, Int64.le_iff_toInt_le, Int32.toInt_toInt64, ← Int32.toInt_inj, ← Int64.toInt_inj, Int32.reduceToInt, Int64.reduceToInt] <;> omega)) (by revert hN126 hy122 c128 hy233 hy127; first | omega | (simp only [vp_in_iff, Int32.lt_iff_toInt_lt, Int32.le_iff_toInt_le, Int64.lt_iff_toInt_lt, Int64.le_iff_toInt_le, Int32.toInt_toInt64, ← Int32.toInt_inj, ← Int64.toInt_inj, Int32.reduceToInt, Int64.reduceToInt] <;> omega)) hP hD hS (lv_sub hl [0, 1, 2, 6, 7, 8, 9, 10] rfl)
                        · refine lv_iload hx hb dX12_helped_201 (lv_at hl 2 rfl) ?_
                          refine lv_iload hx hb dX12_helped_203 (lv_at hl 6 rfl) ?_
                          refine lv_icmp_lt (tgt := 212) hx hb dX12_helped_205 (by decide) (fun c234 => ?_) (fun c234 => ?_)
                          · refine lv_iconst (v := 0) hx hb dX12_helped_212 (by decide) ?_
                            refine lv_iadd hx hb dX12_helped_213 ?_
                            refine lv_topi (fun y235 ey235 => ?_)
                            have hy235 : Int32.toInt y235 = Int32.toInt y123 + 0 := by rw [ey235]; exact zi_addc rfl (by decide) (by have := Int32.le_toInt y123; have := Int32.toInt_lt y123; first | omega | (simp only [vp_in_iff, Int32.lt_iff_toInt_lt, Int32.le_iff_toInt_le, Int64.lt_iff_toInt_lt, Int64.le_iff_toInt_le, Int32.toInt_toInt64, ← Int32.toInt_inj, ← Int64.toInt_inj, Int32.reduceToInt, Int64.reduceToInt] <;> omega))
                            refine lv_istore (lv' := [(6, .int y235), (5, .int y230), (10, .int y214), (9, .int y215), (8, .int y216), (7, .int y122), (4, .int y33), (3, .int y34), (2, .int y4), (0, .ref q_0), (1, .int x_0)]) hx hb dX12_helped_214 hl (by decide) rfl (fun ls hl => ?_)
                            obtain ⟨y236, ey236⟩ : ∃ q : Int32, q = y122 + 1 := ⟨_, rfl⟩
                            have hy236 : Int32.toInt y236 = Int32.toInt y122 + 1 := by rw [ey236]; exact zi_addc rfl (by decide) (by revert hN126 hy122 c128 hy127; first | omega | (simp only [vp_in_iff, Int32.lt_iff_toInt_lt, Int32.le_iff_toInt_le, Int64.lt_iff_toInt_lt, Int64.le_iff_toInt_le, Int32.toInt_toInt64, ← Int32.toInt_inj, ← Int64.toInt_inj, Int32.reduceToInt, Int64.reduceToInt] <;> omega))
                            refine lv_iinc (v := y236) (lv' := [(7, .int y236), (6, .int y235), (5, .int y230), (10, .int y214), (9, .int y215), (8, .int y216), (4, .int y33), (3, .int y34), (2, .int y4), (0, .ref q_0), (1, .int x_0)]) hx hb dX12_helped_216 hl (k := 5) rfl (by rw [ey236]; exact zz_inc (by decide)) (by decide) rfl (fun ls hl => ?_)
                            refine lv_goto (tgt := 108) hx hb dX12_helped_219 (by decide) ?_
                            exact ihN126 y236 y235 y230 _ _ ls (by revert hN126 hy122 c128 hy236 hy127; first | omega | (simp only [vp_in_iff, Int32.lt_iff_toInt_lt, Int32.le_iff_toInt_le, Int64.lt_iff_toInt_lt, Int64.le_iff_toInt_le, Int32.toInt_toInt64, ← Int32.toInt_inj, ← Int64.toInt_inj, Int32.reduceToInt, Int64.reduceToInt] <;> omega)) (by revert hN126 hy122 c128 hy236 hy127; first | omega | (simp only [vp_in_iff, Int32.lt_iff_toInt_lt, Int32.le_iff_toInt_le, Int64.lt_iff_toInt_lt, Int64.le_iff_toInt_le, Int32.toInt_toInt64, ← Int32.toInt_inj, ← Int64.toInt_inj, Int32.reduceToInt, Int64.reduceToInt] <;> omega)) hP hD hS (lv_sub hl [0, 1, 2, 6, 7, 8, 9, 10] rfl)
                          · refine lv_iconst (v := 1) hx hb dX12_helped_208 (by decide) ?_
                            refine lv_goto (tgt := 213) hx hb dX12_helped_209 (by decide) ?_
                            refine lv_iadd hx hb dX12_helped_213 ?_
                            refine lv_topi (fun y237 ey237 => ?_)
                            refine lv_istore (lv' := [(6, .int y237), (5, .int y230), (10, .int y214), (9, .int y215), (8, .int y216), (7, .int y122), (4, .int y33), (3, .int y34), (2, .int y4), (0, .ref q_0), (1, .int x_0)]) hx hb dX12_helped_214 hl (by decide) rfl (fun ls hl => ?_)
                            obtain ⟨y238, ey238⟩ : ∃ q : Int32, q = y122 + 1 := ⟨_, rfl⟩
                            have hy238 : Int32.toInt y238 = Int32.toInt y122 + 1 := by rw [ey238]; exact zi_addc rfl (by decide) (by revert hN126 hy122 c128 hy127; first | omega | (simp only [vp_in_iff, Int32.lt_iff_toInt_lt, Int32.le_iff_toInt_le, Int64.lt_iff_toInt_lt, Int64.le_iff_toInt_le, Int32.toInt_toInt64, ← Int32.toInt_inj, ← Int64.toInt_inj, Int32.reduceToInt, Int64.reduceToInt] <;> omega))
                            refine lv_iinc (v := y238) (lv' := [(7, .int y238), (6, .int y237), (5, .int y230), (10, .int y214), (9, .int y215), (8, .int y216), (4, .int y33), (3, .int y34), (2, .int y4), (0, .ref q_0), (1, .int x_0)]) hx hb dX12_helped_216 hl (k := 5) rfl (by rw [ey238]; exact zz_inc (by decide)) (by decide) rfl (fun ls hl => ?_)
                            refine lv_goto (tgt := 108) hx hb dX12_helped_219 (by decide) ?_
                            exact ihN126 y238 y237 y230 _ _ ls (by revert hN126 hy122 c128 hy238 hy127; first | omega | (simp only [vp_in_iff, Int32.lt_iff_toInt_lt, Int32.le_iff_toInt_le, Int64.lt_iff_toInt_lt, Int64.le_iff_toInt_le, Int32.toInt_toInt64, ← Int32.toInt_inj, ← Int64.toInt_inj, Int32.reduceToInt, Int64.reduceToInt] <;> omega)) (by revert hN126 hy122 c128 hy238 hy127; first | omega | (simp only [vp_in_iff, Int32.lt_iff_toInt_lt, Int32.le_iff_toInt_le, Int64.lt_iff_toInt_lt, Int64.le_iff_toInt_le, Int32.toInt_toInt64, ← Int32.toInt_inj, ← Int64.toInt_inj, Int32.reduceToInt, Int64.reduceToInt] <;> omega)) hP hD hS (lv_sub hl [0, 1, 2, 6, 7, 8, 9, 10] rfl)
                    · refine lv_iload hx hb dX12_helped_131 (lv_at hl 2 rfl) ?_
                      refine lv_iload hx hb dX12_helped_133 (lv_at hl 3 rfl) ?_
                      refine lv_iload hx hb dX12_helped_135 (lv_at hl 0 rfl) ?_
                      refine lv_ishr hx hb dX12_helped_137 ?_
                      refine lv_topi (fun y239 ey239 => ?_)
                      refine lv_iconst (v := 1) hx hb dX12_helped_138 (by decide) ?_
                      refine lv_iand hx hb dX12_helped_139 ?_
                      refine lv_topi (fun y240 ey240 => ?_)
                      have hy240 : 0 ≤ Int32.toInt y240 ∧ Int32.toInt y240 ≤ 1 := by rw [ey240]; exact zo_and _ (by decide)
                      refine lv_iadd hx hb dX12_helped_140 ?_
                      refine lv_topi (fun y241 ey241 => ?_)
                      refine lv_istore (lv' := [(8, .int y241), (10, .int y214), (9, .int y215), (7, .int y122), (6, .int y123), (5, .int y124), (4, .int y33), (3, .int y34), (2, .int y4), (0, .ref q_0), (1, .int x_0)]) hx hb dX12_helped_141 hl (by decide) rfl (fun ls hl => ?_)
                      refine lv_iload hx hb dX12_helped_143 (lv_at hl 2 rfl) ?_
                      refine lv_iload hx hb dX12_helped_145 (lv_at hl 3 rfl) ?_
                      refine lv_iload hx hb dX12_helped_147 (lv_at hl 1 rfl) ?_
                      refine lv_ishr hx hb dX12_helped_149 ?_
                      refine lv_topi (fun y242 ey242 => ?_)
                      refine lv_iconst (v := 1) hx hb dX12_helped_150 (by decide) ?_
                      refine lv_iand hx hb dX12_helped_151 ?_
                      refine lv_topi (fun y243 ey243 => ?_)
                      have hy243 : 0 ≤ Int32.toInt y243 ∧ Int32.toInt y243 ≤ 1 := by rw [ey243]; exact zo_and _ (by decide)
                      refine lv_aload_n hx hb dX12_helped_152 rfl (lv_at hl 9 rfl) ?_
                      refine va_get (D := D) (ci := 12) (v := .ref q_1) (C := RX12) (T := TX12) (N := 56) hx hb hts inX12 hown hK hP 0 rfl rfl 2 (by decide) (hts _ kF_X12_7) (fun _ h9 => h9) rfl dX12_helped_153 ?_
                      refine lv_sipush (v := 7025) hx hb dX12_helped_156 (by decide) ?_
                      refine lv_iconst (v := 3) hx hb dX12_helped_159 (by decide) ?_
                      refine lv_iload hx hb dX12_helped_160 (lv_at hl 1 rfl) ?_
                      refine lv_imul hx hb dX12_helped_162 ?_
                      refine lv_topi (fun y244 ey244 => ?_)
                      have hy244 : Int32.toInt y244 = 3 * Int32.toInt y214 := by rw [ey244]; exact zi_mulc (by decide) rfl (by revert hN218 hy214 c219 hy4 c37 hN36 hy32; first | omega | (simp only [vp_in_iff, Int32.lt_iff_toInt_lt, Int32.le_iff_toInt_le, Int64.lt_iff_toInt_lt, Int64.le_iff_toInt_le, Int32.toInt_toInt64, ← Int32.toInt_inj, ← Int64.toInt_inj, Int32.reduceToInt, Int64.reduceToInt] <;> omega))
                      refine lv_iadd hx hb dX12_helped_163 ?_
                      refine lv_topi (fun y245 ey245 => ?_)
                      have hy245 : Int32.toInt y245 = 7025 + Int32.toInt y244 := by rw [ey245]; exact zi_addc (by decide) rfl (by revert hN218 hy214 c219 hy244 hy4 c37 hN36 hy32; first | omega | (simp only [vp_in_iff, Int32.lt_iff_toInt_lt, Int32.le_iff_toInt_le, Int64.lt_iff_toInt_lt, Int64.le_iff_toInt_le, Int32.toInt_toInt64, ← Int32.toInt_inj, ← Int64.toInt_inj, Int32.reduceToInt, Int64.reduceToInt] <;> omega))
                      refine lv_iconst (v := 2) hx hb dX12_helped_164 (by decide) ?_
                      refine lv_iadd hx hb dX12_helped_165 ?_
                      refine lv_topi (fun y246 ey246 => ?_)
                      have hy246 : Int32.toInt y246 = Int32.toInt y245 + 2 := by rw [ey246]; exact zi_addc rfl (by decide) (by revert hN218 hy214 c219 hy244 hy245 hy4 c37 hN36 hy32; first | omega | (simp only [vp_in_iff, Int32.lt_iff_toInt_lt, Int32.le_iff_toInt_le, Int64.lt_iff_toInt_lt, Int64.le_iff_toInt_le, Int32.toInt_toInt64, ← Int32.toInt_inj, ← Int64.toInt_inj, Int32.reduceToInt, Int64.reduceToInt] <;> omega))
                      refine va_iald hx hb hK hP 1 0 rfl rfl (by revert hN218 hy214 c219 hy244 hy245 hy246 hy4 c37 hN36 hy32; first | omega | (simp only [vp_in_iff, Int32.lt_iff_toInt_lt, Int32.le_iff_toInt_le, Int64.lt_iff_toInt_lt, Int64.le_iff_toInt_le, Int32.toInt_toInt64, ← Int32.toInt_inj, ← Int64.toInt_inj, Int32.reduceToInt, Int64.reduceToInt] <;> omega)) dX12_helped_166 ?_
                      refine lv_topi (fun y247 ey247 => ?_)
                      refine lv_imul hx hb dX12_helped_167 ?_
                      refine lv_topi (fun y248 ey248 => ?_)
                      refine lv_iadd hx hb dX12_helped_168 ?_
                      refine lv_topi (fun y249 ey249 => ?_)
                      refine lv_istore (lv' := [(9, .int y249), (8, .int y241), (10, .int y214), (7, .int y122), (6, .int y123), (5, .int y124), (4, .int y33), (3, .int y34), (2, .int y4), (0, .ref q_0), (1, .int x_0)]) hx hb dX12_helped_169 hl (by decide) rfl (fun ls hl => ?_)
                      obtain ⟨y250, ey250⟩ : ∃ q : Int32, q = y214 + 1 := ⟨_, rfl⟩
                      have hy250 : Int32.toInt y250 = Int32.toInt y214 + 1 := by rw [ey250]; exact zi_addc rfl (by decide) (by revert hN218 hy214 c219 hy244 hy245 hy246 hy4 c37 hN36 hy32; first | omega | (simp only [vp_in_iff, Int32.lt_iff_toInt_lt, Int32.le_iff_toInt_le, Int64.lt_iff_toInt_lt, Int64.le_iff_toInt_le, Int32.toInt_toInt64, ← Int32.toInt_inj, ← Int64.toInt_inj, Int32.reduceToInt, Int64.reduceToInt] <;> omega))
                      refine lv_iinc (v := y250) (lv' := [(10, .int y250), (9, .int y249), (8, .int y241), (7, .int y122), (6, .int y123), (5, .int y124), (4, .int y33), (3, .int y34), (2, .int y4), (0, .ref q_0), (1, .int x_0)]) hx hb dX12_helped_171 hl (k := 2) rfl (by rw [ey250]; exact zz_inc (by decide)) (by decide) rfl (fun ls hl => ?_)
                      refine lv_goto (tgt := 125) hx hb dX12_helped_174 (by decide) ?_
                      exact ihN218 y250 y249 y241 _ _ ls (by revert hN218 hy214 c219 hy244 hy245 hy246 hy250 hy4 c37 hN36 hy32; first | omega | (simp only [vp_in_iff, Int32.lt_iff_toInt_lt, Int32.le_iff_toInt_le, Int64.lt_iff_toInt_lt, Int64.le_iff_toInt_le, Int32.toInt_toInt64, ← Int32.toInt_inj, ← Int64.toInt_inj, Int32.reduceToInt, Int64.reduceToInt] <;> omega)) (by revert hN218 hy214 c219 hy244 hy245 hy246 hy250 hy4 c37 hN36 hy32; first | omega | (simp only [vp_in_iff, Int32.lt_iff_toInt_lt, Int32.le_iff_toInt_le, Int64.lt_iff_toInt_lt, Int64.le_iff_toInt_le, Int32.toInt_toInt64, ← Int32.toInt_inj, ← Int64.toInt_inj, Int32.reduceToInt, Int64.reduceToInt] <;> omega)) hP hD hS (lv_sub hl [0, 1, 2, 3, 4, 5, 6, 7, 8, 9, 10] rfl)
                exact loop217 _ 0 0 0 _ _ _ (Nat.lt_succ_self _) (by first | omega | (simp only [vp_in_iff, Int32.lt_iff_toInt_lt, Int32.le_iff_toInt_le, Int64.lt_iff_toInt_lt, Int64.le_iff_toInt_le, Int32.toInt_toInt64, ← Int32.toInt_inj, ← Int64.toInt_inj, Int32.reduceToInt, Int64.reduceToInt] <;> omega)) hP hD hS (lv_sub hl [0, 1, 2, 3, 4, 5, 6, 7, 8, 9, 10] rfl)
          exact loop125 _ 0 0 0 _ _ _ (Nat.lt_succ_self _) (by first | omega | (simp only [vp_in_iff, Int32.lt_iff_toInt_lt, Int32.le_iff_toInt_le, Int64.lt_iff_toInt_lt, Int64.le_iff_toInt_le, Int32.toInt_toInt64, ← Int32.toInt_inj, ← Int64.toInt_inj, Int32.reduceToInt, Int64.reduceToInt] <;> omega)) hP hD hS (lv_sub hl [0, 1, 2, 3, 4, 5, 6, 7] rfl)
        · refine lv_iload_n hx hb dX12_helped_39 rfl (lv_at hl 2 rfl) ?_
          refine lv_aload_n hx hb dX12_helped_40 rfl (lv_at hl 4 rfl) ?_
          refine va_get (D := D) (ci := 12) (v := .ref q_1) (C := RX12) (T := TX12) (N := 56) hx hb hts inX12 hown hK hP 0 rfl rfl 2 (by decide) (hts _ kF_X12_7) (fun _ h9 => h9) rfl dX12_helped_41 ?_
          refine lv_sipush (v := 7025) hx hb dX12_helped_44 (by decide) ?_
          refine lv_iconst (v := 3) hx hb dX12_helped_47 (by decide) ?_
          refine lv_iload hx hb dX12_helped_48 (lv_at hl 0 rfl) ?_
          refine lv_imul hx hb dX12_helped_50 ?_
          refine lv_topi (fun y251 ey251 => ?_)
          have hy251 : Int32.toInt y251 = 3 * Int32.toInt y32 := by rw [ey251]; exact zi_mulc (by decide) rfl (by revert hN36 hy32 c37 hy4; first | omega | (simp only [vp_in_iff, Int32.lt_iff_toInt_lt, Int32.le_iff_toInt_le, Int64.lt_iff_toInt_lt, Int64.le_iff_toInt_le, Int32.toInt_toInt64, ← Int32.toInt_inj, ← Int64.toInt_inj, Int32.reduceToInt, Int64.reduceToInt] <;> omega))
          refine lv_iadd hx hb dX12_helped_51 ?_
          refine lv_topi (fun y252 ey252 => ?_)
          have hy252 : Int32.toInt y252 = 7025 + Int32.toInt y251 := by rw [ey252]; exact zi_addc (by decide) rfl (by revert hN36 hy32 c37 hy251 hy4; first | omega | (simp only [vp_in_iff, Int32.lt_iff_toInt_lt, Int32.le_iff_toInt_le, Int64.lt_iff_toInt_lt, Int64.le_iff_toInt_le, Int32.toInt_toInt64, ← Int32.toInt_inj, ← Int64.toInt_inj, Int32.reduceToInt, Int64.reduceToInt] <;> omega))
          refine lv_iconst (v := 1) hx hb dX12_helped_52 (by decide) ?_
          refine lv_iadd hx hb dX12_helped_53 ?_
          refine lv_topi (fun y253 ey253 => ?_)
          have hy253 : Int32.toInt y253 = Int32.toInt y252 + 1 := by rw [ey253]; exact zi_addc rfl (by decide) (by revert hN36 hy32 c37 hy251 hy252 hy4; first | omega | (simp only [vp_in_iff, Int32.lt_iff_toInt_lt, Int32.le_iff_toInt_le, Int64.lt_iff_toInt_lt, Int64.le_iff_toInt_le, Int32.toInt_toInt64, ← Int32.toInt_inj, ← Int64.toInt_inj, Int32.reduceToInt, Int64.reduceToInt] <;> omega))
          refine va_iald hx hb hK hP 1 0 rfl rfl (by revert hN36 hy32 c37 hy251 hy252 hy253 hy4; first | omega | (simp only [vp_in_iff, Int32.lt_iff_toInt_lt, Int32.le_iff_toInt_le, Int64.lt_iff_toInt_lt, Int64.le_iff_toInt_le, Int32.toInt_toInt64, ← Int32.toInt_inj, ← Int64.toInt_inj, Int32.reduceToInt, Int64.reduceToInt] <;> omega)) dX12_helped_54 ?_
          refine lv_topi (fun y254 ey254 => ?_)
          refine lv_iadd hx hb dX12_helped_55 ?_
          refine lv_topi (fun y255 ey255 => ?_)
          refine lv_istore_n (lv' := [(3, .int y255), (5, .int y32), (4, .int y33), (2, .int y4), (0, .ref q_0), (1, .int x_0)]) hx hb dX12_helped_56 rfl hl (by decide) rfl (fun ls hl => ?_)
          refine lv_iload hx hb dX12_helped_57 (lv_at hl 2 rfl) ?_
          refine lv_aload_n hx hb dX12_helped_59 rfl (lv_at hl 4 rfl) ?_
          refine va_get (D := D) (ci := 12) (v := .ref q_1) (C := RX12) (T := TX12) (N := 56) hx hb hts inX12 hown hK hP 0 rfl rfl 2 (by decide) (hts _ kF_X12_7) (fun _ h9 => h9) rfl dX12_helped_60 ?_
          refine lv_sipush (v := 7025) hx hb dX12_helped_63 (by decide) ?_
          refine lv_iconst (v := 3) hx hb dX12_helped_66 (by decide) ?_
          refine lv_iload hx hb dX12_helped_67 (lv_at hl 1 rfl) ?_
          refine lv_imul hx hb dX12_helped_69 ?_
          refine lv_topi (fun y256 ey256 => ?_)
          have hy256 : Int32.toInt y256 = 3 * Int32.toInt y32 := by rw [ey256]; exact zi_mulc (by decide) rfl (by revert hN36 hy32 c37 hy251 hy252 hy253 hy4; first | omega | (simp only [vp_in_iff, Int32.lt_iff_toInt_lt, Int32.le_iff_toInt_le, Int64.lt_iff_toInt_lt, Int64.le_iff_toInt_le, Int32.toInt_toInt64, ← Int32.toInt_inj, ← Int64.toInt_inj, Int32.reduceToInt, Int64.reduceToInt] <;> omega))
          refine lv_iadd hx hb dX12_helped_70 ?_
          refine lv_topi (fun y257 ey257 => ?_)
          have hy257 : Int32.toInt y257 = 7025 + Int32.toInt y256 := by rw [ey257]; exact zi_addc (by decide) rfl (by revert hN36 hy32 c37 hy251 hy252 hy253 hy256 hy4; first | omega | (simp only [vp_in_iff, Int32.lt_iff_toInt_lt, Int32.le_iff_toInt_le, Int64.lt_iff_toInt_lt, Int64.le_iff_toInt_le, Int32.toInt_toInt64, ← Int32.toInt_inj, ← Int64.toInt_inj, Int32.reduceToInt, Int64.reduceToInt] <;> omega))
          refine lv_iconst (v := 1) hx hb dX12_helped_71 (by decide) ?_
          refine lv_iadd hx hb dX12_helped_72 ?_
          refine lv_topi (fun y258 ey258 => ?_)
          have hy258 : Int32.toInt y258 = Int32.toInt y257 + 1 := by rw [ey258]; exact zi_addc rfl (by decide) (by revert hN36 hy32 c37 hy251 hy252 hy253 hy256 hy257 hy4; first | omega | (simp only [vp_in_iff, Int32.lt_iff_toInt_lt, Int32.le_iff_toInt_le, Int64.lt_iff_toInt_lt, Int64.le_iff_toInt_le, Int32.toInt_toInt64, ← Int32.toInt_inj, ← Int64.toInt_inj, Int32.reduceToInt, Int64.reduceToInt] <;> omega))
          refine va_iald hx hb hK hP 1 0 rfl rfl (by revert hN36 hy32 c37 hy251 hy252 hy253 hy256 hy257 hy258 hy4; first | omega | (simp only [vp_in_iff, Int32.lt_iff_toInt_lt, Int32.le_iff_toInt_le, Int64.lt_iff_toInt_lt, Int64.le_iff_toInt_le, Int32.toInt_toInt64, ← Int32.toInt_inj, ← Int64.toInt_inj, Int32.reduceToInt, Int64.reduceToInt] <;> omega)) dX12_helped_73 ?_
          refine lv_toc (v := y254) (show y254 = f_32 (Int32.toNatClampNeg y258) from (show y253 = y258 from Int32.toInt_inj.mp (by revert hN36 hy32 c37 hy251 hy252 hy253 hy256 hy257 hy258 hy4; first | omega | (simp only [vp_in_iff, Int32.lt_iff_toInt_lt, Int32.le_iff_toInt_le, Int64.lt_iff_toInt_lt, Int64.le_iff_toInt_le, Int32.toInt_toInt64, ← Int32.toInt_inj, ← Int64.toInt_inj, Int32.reduceToInt, Int64.reduceToInt] <;> omega))) ▸ ey254).symm ?_
          refine lv_aload_n hx hb dX12_helped_74 rfl (lv_at hl 4 rfl) ?_
          refine va_get (D := D) (ci := 12) (v := .ref q_1) (C := RX12) (T := TX12) (N := 56) hx hb hts inX12 hown hK hP 0 rfl rfl 2 (by decide) (hts _ kF_X12_7) (fun _ h9 => h9) rfl dX12_helped_75 ?_
          refine lv_sipush (v := 7025) hx hb dX12_helped_78 (by decide) ?_
          refine lv_iconst (v := 3) hx hb dX12_helped_81 (by decide) ?_
          refine lv_iload hx hb dX12_helped_82 (lv_at hl 1 rfl) ?_
          refine lv_imul hx hb dX12_helped_84 ?_
          refine lv_topi (fun y259 ey259 => ?_)
          have hy259 : Int32.toInt y259 = 3 * Int32.toInt y32 := by rw [ey259]; exact zi_mulc (by decide) rfl (by revert hN36 hy32 c37 hy251 hy252 hy253 hy256 hy257 hy258 hy4; first | omega | (simp only [vp_in_iff, Int32.lt_iff_toInt_lt, Int32.le_iff_toInt_le, Int64.lt_iff_toInt_lt, Int64.le_iff_toInt_le, Int32.toInt_toInt64, ← Int32.toInt_inj, ← Int64.toInt_inj, Int32.reduceToInt, Int64.reduceToInt] <;> omega))
          refine lv_iadd hx hb dX12_helped_85 ?_
          refine lv_topi (fun y260 ey260 => ?_)
          have hy260 : Int32.toInt y260 = 7025 + Int32.toInt y259 := by rw [ey260]; exact zi_addc (by decide) rfl (by revert hN36 hy32 c37 hy251 hy252 hy253 hy256 hy257 hy258 hy259 hy4; first | omega | (simp only [vp_in_iff, Int32.lt_iff_toInt_lt, Int32.le_iff_toInt_le, Int64.lt_iff_toInt_lt, Int64.le_iff_toInt_le, Int32.toInt_toInt64, ← Int32.toInt_inj, ← Int64.toInt_inj, Int32.reduceToInt, Int64.reduceToInt] <;> omega))
          refine lv_iconst (v := 2) hx hb dX12_helped_86 (by decide) ?_
          refine lv_iadd hx hb dX12_helped_87 ?_
          refine lv_topi (fun y261 ey261 => ?_)
          have hy261 : Int32.toInt y261 = Int32.toInt y260 + 2 := by rw [ey261]; exact zi_addc rfl (by decide) (by revert hN36 hy32 c37 hy251 hy252 hy253 hy256 hy257 hy258 hy259 hy260 hy4; first | omega | (simp only [vp_in_iff, Int32.lt_iff_toInt_lt, Int32.le_iff_toInt_le, Int64.lt_iff_toInt_lt, Int64.le_iff_toInt_le, Int32.toInt_toInt64, ← Int32.toInt_inj, ← Int64.toInt_inj, Int32.reduceToInt, Int64.reduceToInt] <;> omega))
          refine va_iald hx hb hK hP 1 0 rfl rfl (by revert hN36 hy32 c37 hy251 hy252 hy253 hy256 hy257 hy258 hy259 hy260 hy261 hy4; first | omega | (simp only [vp_in_iff, Int32.lt_iff_toInt_lt, Int32.le_iff_toInt_le, Int64.lt_iff_toInt_lt, Int64.le_iff_toInt_le, Int32.toInt_toInt64, ← Int32.toInt_inj, ← Int64.toInt_inj, Int32.reduceToInt, Int64.reduceToInt] <;> omega)) dX12_helped_88 ?_
          refine lv_topi (fun y262 ey262 => ?_)
          refine lv_imul hx hb dX12_helped_89 ?_
          refine lv_topi (fun y263 ey263 => ?_)
          refine lv_iadd hx hb dX12_helped_90 ?_
          refine lv_topi (fun y264 ey264 => ?_)
          refine lv_istore (lv' := [(4, .int y264), (3, .int y255), (5, .int y32), (2, .int y4), (0, .ref q_0), (1, .int x_0)]) hx hb dX12_helped_91 hl (by decide) rfl (fun ls hl => ?_)
          obtain ⟨y265, ey265⟩ : ∃ q : Int32, q = y32 + 1 := ⟨_, rfl⟩
          have hy265 : Int32.toInt y265 = Int32.toInt y32 + 1 := by rw [ey265]; exact zi_addc rfl (by decide) (by revert hN36 hy32 c37 hy251 hy252 hy253 hy256 hy257 hy258 hy259 hy260 hy261 hy4; first | omega | (simp only [vp_in_iff, Int32.lt_iff_toInt_lt, Int32.le_iff_toInt_le, Int64.lt_iff_toInt_lt, Int64.le_iff_toInt_le, Int32.toInt_toInt64, ← Int32.toInt_inj, ← Int64.toInt_inj, Int32.reduceToInt, Int64.reduceToInt] <;> omega))
          refine lv_iinc (v := y265) (lv' := [(5, .int y265), (4, .int y264), (3, .int y255), (2, .int y4), (0, .ref q_0), (1, .int x_0)]) hx hb dX12_helped_93 hl (k := 2) rfl (by rw [ey265]; exact zz_inc (by decide)) (by decide) rfl (fun ls hl => ?_)
          refine lv_goto (tgt := 33) hx hb dX12_helped_96 (by decide) ?_
          exact ihN36 y265 y264 y255 _ _ ls (by revert hN36 hy32 c37 hy251 hy252 hy253 hy256 hy257 hy258 hy259 hy260 hy261 hy265 hy4; first | omega | (simp only [vp_in_iff, Int32.lt_iff_toInt_lt, Int32.le_iff_toInt_le, Int64.lt_iff_toInt_lt, Int64.le_iff_toInt_le, Int32.toInt_toInt64, ← Int32.toInt_inj, ← Int64.toInt_inj, Int32.reduceToInt, Int64.reduceToInt] <;> omega)) (by revert hN36 hy32 c37 hy251 hy252 hy253 hy256 hy257 hy258 hy259 hy260 hy261 hy265 hy4; first | omega | (simp only [vp_in_iff, Int32.lt_iff_toInt_lt, Int32.le_iff_toInt_le, Int64.lt_iff_toInt_lt, Int64.le_iff_toInt_le, Int32.toInt_toInt64, ← Int32.toInt_inj, ← Int64.toInt_inj, Int32.reduceToInt, Int64.reduceToInt] <;> omega)) hP hD hS (lv_sub hl [0, 1, 2, 3, 4, 5] rfl)
    exact loop35 _ 0 0 0 _ _ _ (Nat.lt_succ_self _) (by first | omega | (simp only [vp_in_iff, Int32.lt_iff_toInt_lt, Int32.le_iff_toInt_le, Int64.lt_iff_toInt_lt, Int64.le_iff_toInt_le, Int32.toInt_toInt64, ← Int32.toInt_inj, ← Int64.toInt_inj, Int32.reduceToInt, Int64.reduceToInt] <;> omega)) hP hD hS (lv_sub hl [0, 1, 2, 3, 4, 5] rfl)
